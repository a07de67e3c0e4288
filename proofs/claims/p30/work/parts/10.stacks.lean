def zSt (y : zY) (q : Nat → Nat) (g : Nat → Nat → Int32) : va_W := [(q 0, .inr (3, [.ref (q 1), .ref (q 2), .ref (q 3), .ref (q 4), .ref (q 5), .ref (q 6), .ref (q 7)])), (q 1, .inl (y.1 0, 8, .inl (g 2))), (q 2, .inl (y.1 0, 8, .inl (g 3))), (q 3, .inl (y.1 0, 8, .inl (g 4))), (q 4, .inl (y.1 0, 8, .inl (g 5))), (q 5, .inl (y.1 0, 48, .inl (g 6))), (q 6, .inl (y.1 0, 48, .inl (g 7))), (q 7, .inl (y.1 0, 48, .inl (g 8)))]
def zh (g : Nat → Nat → Int32) (s : Nat) : Nat := (g 2 s).toNatClampNeg
def okH (g : Nat → Nat → Int32) : Prop := ∀ s, s < 8 → g 2 s = nI (zh g s) ∧ zh g s ≤ 6
/-- a column's blocks of which something is left, packed: how many of the first i, kinds, volumes -/
def drI (K V : Nat → Int32) (b : Nat) : Nat → Nat × (Nat → Int32) × (Nat → Int32)
  | 0 => (0, K, V)
  | i + 1 => if (drI K V b i).2.2 (b + i) ≤ 0 then drI K V b i else ((drI K V b i).1 + 1, upd (drI K V b i).2.1 (b + (drI K V b i).1) ((drI K V b i).2.1 (b + i)), upd (drI K V b i).2.2 (b + (drI K V b i).1) ((drI K V b i).2.2 (b + i)))
def drG (g : Nat → Nat → Int32) (s : Nat) : Nat → Nat → Int32 := va_up (va_up (va_up g 6 (drI (g 6) (g 7) (s * 6) (zh g s)).2.1) 7 (drI (g 6) (g 7) (s * 6) (zh g s)).2.2) 2 (upd (g 2) s (nI (drI (g 6) (g 7) (s * 6) (zh g s)).1))
theorem drI_le (K V : Nat → Int32) (b : Nat) : ∀ i, (drI K V b i).1 ≤ i
  | 0 => Nat.le_refl 0
  | i + 1 => by
    have h := drI_le K V b i
    unfold drI
    split
    · omega
    · show _ + 1 ≤ _; omega
theorem okH_dr {g : Nat → Nat → Int32} (hg : okH g) {s : Nat} (hs : s < 8) : okH (drG g s) := by
  intro s' hs'
  have hz := (hg s hs).2
  have hl := drI_le (g 6) (g 7) (s * 6) (zh g s)
  by_cases e : s' = s
  · subst e
    have e1 : (drG g s') 2 s' = nI (drI (g 6) (g 7) (s' * 6) (zh g s')).1 := pk_us
    have e2 : zh (drG g s') s' = (drI (g 6) (g 7) (s' * 6) (zh g s')).1 := by unfold zh; rw [e1]; exact nI_clamp (by omega)
    rw [e2]; exact ⟨e1, by omega⟩
  · have e1 : (drG g s) 2 s' = g 2 s' := pk_un e
    have e2 : zh (drG g s) s' = zh g s' := by unfold zh; rw [e1]
    rw [e1, e2]; exact hg s' hs'
def vSum (f : Nat → Int32) (b : Nat) : Nat → Int32
  | 0 => nI 0
  | i + 1 => vSum f b i + f (b + i)
def vAll (g : Nat → Nat → Int32) : Nat → Int32
  | 0 => nI 0
  | s + 1 => vAll g s + vSum (g 7) (s * 6) (zh g s)
def scN (g : Nat → Nat → Int32) : Nat → Int32
  | 0 => nI 0
  | s + 1 => scN g s + (if g 2 s ≤ 0 then nI 0 else nI 1)
def tlV (V Lo : Nat → Int32) (b : Nat) : Nat → Nat → Int32
  | 0 => V
  | i + 1 => upd (tlV V Lo b i) (b + i) (tlV V Lo b i (b + i) - Lo (b + i))
def tlG (g : Nat → Nat → Int32) (s : Nat) : Nat → Nat → Int32 := drG (va_up (va_up g 7 (tlV (g 7) (g 8) (s * 6) (zh g s))) 5 (upd (g 5) s (g 5 s + vSum (g 8) (s * 6) (zh g s)))) s
def zhA (g : Nat → Nat → Int32) (x : Int32) : Int32 := if x < 0 then nI 0 else if nI 8 ≤ x then nI 0 else g 2 x.toNatClampNeg
def hbl (g : Nat → Nat → Int32) (x l : Int32) : Int32 := if l < 0 then nI 0 else if zhA g x ≤ l then nI 0 else nI 1
def fcS (g : Nat → Nat → Int32) (s l : Nat) (hr : Int32) : Int32 := if nI 4 ≤ hr then (if nI 8 ≤ hr then (if zhA g (nI s - nI 1) ≤ nI l then nI 1 else nI 0) else (if g 3 s = nI 1 then nI 0 else nI 1)) else (if zhA g (nI s + nI 1) ≤ nI l then nI 1 else nI 0)
def fcs (g : Nat → Nat → Int32) (s l : Nat) (hr : Int32) : Int32 := fcS g s l hr + (if nI l = g 2 s - nI 1 then nI 1 else nI 0)
def rt (k : Int32) : Int32 := if k = 0 then nI 6 else if k = 1 then nI 4 else nI 2
/-- what a block loses in an hour -/
def lsV (g : Nat → Nat → Int32) (hr : Int32) (s l : Nat) : Int32 := if g 7 (s * 6 + l) < rt (g 6 (s * 6 + l)) * fcs g s l hr then g 7 (s * 6 + l) else rt (g 6 (s * 6 + l)) * fcs g s l hr
def mlI (g : Nat → Nat → Int32) (hr : Int32) (s : Nat) (L : Nat → Int32) : Nat → Nat → Int32
  | 0 => L
  | l + 1 => upd (mlI g hr s L l) (s * 6 + l) (lsV g hr s l)
def mlO (g : Nat → Nat → Int32) (hr : Int32) : Nat → Nat → Int32
  | 0 => g 8
  | s + 1 => mlI g hr s (mlO g hr s) (zh g s)
def mtG (g : Nat → Nat → Int32) : Nat → Nat → Nat → Int32
  | 0 => g
  | s + 1 => tlG (mtG g s) s
def mtS (g : Nat → Nat → Int32) : Nat → Int32
  | 0 => nI 0
  | s + 1 => mtS g s + vSum (mtG g s 8) (s * 6) (zh (mtG g s) s)
def mlR (g : Nat → Nat → Int32) (hr : Int32) : Nat → Nat → Int32 := mtG (va_up g 8 (mlO g hr 8)) 8
def ml5 (g R : Nat → Nat → Int32) : Nat → Nat → Int32 := va_up (va_up (va_up (va_up (va_up g 2 (R 2)) 5 (R 5)) 6 (R 6)) 7 (R 7)) 8 (R 8)
def mlG (g : Nat → Nat → Int32) (hr : Int32) : Nat → Nat → Int32 := ml5 g (mlR g hr)
theorem mtG_3 (g : Nat → Nat → Int32) : ∀ s, mtG g s 3 = g 3
  | 0 => rfl
  | s + 1 => mtG_3 g s
theorem mtG_4 (g : Nat → Nat → Int32) : ∀ s, mtG g s 4 = g 4
  | 0 => rfl
  | s + 1 => mtG_4 g s
theorem zSt_5 (y : zY) (q : Nat → Nat) (g R : Nat → Nat → Int32) (h3 : R 3 = g 3) (h4 : R 4 = g 4) : zSt y q R = zSt y q (ml5 g R) := by
  unfold zSt
  rw [h3, h4]
  rfl
theorem zSt_ml (y : zY) (q : Nat → Nat) (g : Nat → Nat → Int32) (hr : Int32) : zSt y q (mlR g hr) = zSt y q (mlG g hr) := zSt_5 y q g _ (mtG_3 _ 8) (mtG_4 _ 8)
def mlS (g : Nat → Nat → Int32) (hr : Int32) : Int32 := mtS (va_up g 8 (mlO g hr 8)) 8
theorem okH_tl {g : Nat → Nat → Int32} (hg : okH g) {s : Nat} (hs : s < 8) : okH (tlG g s) := okH_dr (g := va_up (va_up g 7 (tlV (g 7) (g 8) (s * 6) (zh g s))) 5 (upd (g 5) s (g 5 s + vSum (g 8) (s * 6) (zh g s)))) hg hs
theorem okH_mt {g : Nat → Nat → Int32} (hg : okH g) : ∀ s, s ≤ 8 → okH (mtG g s)
  | 0, _ => hg
  | s + 1, h => okH_tl (okH_mt hg s (by omega)) (by omega)
/-- a block is cut -/
def ctG (g : Nat → Nat → Int32) (s l : Nat) (u : Int32) : Nat → Nat → Int32 := drG (va_up (va_up g 7 (upd (g 7) (s * 6 + l) (g 7 (s * 6 + l) - u))) 4 (upd (g 4) s (g 4 s + u))) s
/-- a block is put on top -/
def adG (g : Nat → Nat → Int32) (s : Nat) (k : Int32) : Nat → Nat → Int32 := va_up (va_up (va_up g 6 (upd (g 6) (s * 6 + zh g s) k)) 7 (upd (g 7) (s * 6 + zh g s) (nI 100))) 2 (upd (g 2) s (nI (zh g s + 1)))
/-- the stacks' rows out of another place -/
def cpSt (t g : Nat → Nat → Int32) : Nat → Nat → Int32 := va_up (va_up (va_up (va_up (va_up (va_up t 2 (g 2)) 3 (g 3)) 4 (g 4)) 5 (g 5)) 6 (g 6)) 7 (g 7)
set_option maxHeartbeats 4000000 in
set_option maxRecDepth 100000 in
/-- placeOf(a, b) -/
theorem c_X9_placeOf {l : Launch} {y : zY} {D : va_G} (a b : Nat) : zM l y D yX9_placeOf wsX9_placeOf 0 0 [.int (nI a), .int (nI b)] ([]) ([]) (some (.int (nI (a * 6 + b)))) := by
  refine z_start (own := RX9) (cc := cX9_placeOf) (maxL := 2) (ret := (some .int)) rfl (by decide +kernel) rfl (Nat.le_of_ble_eq_true rfl) rfl ?_
  intro E hEl hEy hED h hf
  subst hEl hEy hED
  have hkR : 0 ≤ E.2.2.2.2.2.1.cells ∧ 0 ≤ E.2.2.2.2.2.1.slots := ⟨Nat.zero_le _, Nat.zero_le _⟩
  refine z_cast (lv := [(0, .int (nI a)), (1, .int (nI b))]) (ws := ([])) (st := []) ?_ rfl rfl rfl
  refine z_iload_n h 0 rfl dX9_placeOf_0 ?_
  refine z_bipush h (nI 6) (by decide +kernel) dX9_placeOf_1 ?_
  refine z_imul h dX9_placeOf_3 ?_
  refine z_top (nI (a * 6)) (pk_mul _ _) ?_
  refine z_iload_n h 1 rfl dX9_placeOf_4 ?_
  refine z_iadd h dX9_placeOf_5 ?_
  refine z_top (nI ((a * 6) + b)) (nI_add _ _) ?_
  exact z_iret h hf rfl rfl rfl dX9_placeOf_6

theorem iX4_heightAt_X4 : ∀ w ∈ u_ws RX4 TX4 7, w ∈ wsX4_heightAt := by decide +kernel
set_option maxHeartbeats 4000000 in
set_option maxRecDepth 100000 in
/-- heightAt -/
theorem c_X4_heightAt {l : Launch} {y : zY} {D : va_G} (q : Nat → Nat) (g : Nat → Nat → Int32) (x : Int32) : zM l y D yX4_heightAt wsX4_heightAt 0 0 [.ref (q 0), .int x] (zSt y q g) (zSt y q g) (some (.int (zhA g x))) := by
  refine z_start (own := RX4) (cc := cX4_heightAt) (maxL := 2) (ret := (some .int)) rfl (by decide +kernel) rfl (Nat.le_of_ble_eq_true rfl) rfl ?_
  intro E hEl hEy hED h hf
  subst hEl hEy hED
  have hkR : 0 ≤ E.2.2.2.2.2.1.cells ∧ 0 ≤ E.2.2.2.2.2.1.slots := ⟨Nat.zero_le _, Nat.zero_le _⟩
  refine z_cast (lv := [(0, .ref (q 0)), (1, .int x)]) (ws := (zSt (zy E) q g)) (st := []) ?_ rfl rfl rfl
  refine z_iload_n h 1 rfl dX4_heightAt_0 ?_
  refine z_if_lt h 19 dX4_heightAt_1 (by decide) (fun c_1 => ?_) (fun c_1 => ?_)
  · refine z_iconst h (nI 0) (by decide +kernel) dX4_heightAt_19 ?_
    exact z_iret h hf rfl (by first | rfl | ((try simp only [zhA, if_pos c_1]) <;> (try rfl))) rfl dX4_heightAt_20
  · refine z_iload_n h 1 rfl dX4_heightAt_4 ?_
    refine z_bipush h (nI 8) (by decide +kernel) dX4_heightAt_5 ?_
    refine z_icmp_ge h 19 dX4_heightAt_7 (by decide) (fun c_7 => ?_) (fun c_7 => ?_)
    · refine z_iconst h (nI 0) (by decide +kernel) dX4_heightAt_19 ?_
      exact z_iret h hf rfl (by first | rfl | ((try simp only [zhA, if_neg c_1, if_pos c_7]) <;> (try rfl))) rfl dX4_heightAt_20
    · refine z_aload_n h 0 rfl dX4_heightAt_10 ?_
      refine z_get h 0 3 0 (v := .ref (q 1)) rfl rfl iX4_heightAt_X4 (by decide) (List.mem_of_getElem? (i := 1) (by decide +kernel)) rfl rfl dX4_heightAt_11 ?_
      refine z_iload_n h 1 rfl dX4_heightAt_14 ?_
      refine z_iald h 1 x.toNatClampNeg (f := g 2) rfl rfl (z_nn c_1) (z_ltn (by decide) c_1 c_7) (by decide) dX4_heightAt_15 ?_
      refine z_goto h 20 dX4_heightAt_16 (by decide) ?_
      exact z_iret h hf rfl (by first | rfl | ((try simp only [zhA, if_neg c_1, if_neg c_7]) <;> (try rfl))) rfl dX4_heightAt_20

set_option maxHeartbeats 4000000 in
set_option maxRecDepth 100000 in
/-- hasBlock -/
theorem c_X4_hasBlock {l : Launch} {y : zY} {D : va_G} (q : Nat → Nat) (g : Nat → Nat → Int32) (x t : Int32) : zM l y D yX4_hasBlock wsX4_hasBlock 1 21 [.ref (q 0), .int x, .int t] (zSt y q g) (zSt y q g) (some (.int (hbl g x t))) := by
  refine z_start (own := RX4) (cc := cX4_hasBlock) (maxL := 3) (ret := (some .boolean)) rfl (by decide +kernel) rfl (Nat.le_of_ble_eq_true rfl) rfl ?_
  intro E hEl hEy hED h hf
  subst hEl hEy hED
  have hkR : 0 ≤ E.2.2.2.2.2.1.cells ∧ 0 ≤ E.2.2.2.2.2.1.slots := ⟨Nat.zero_le _, Nat.zero_le _⟩
  refine z_cast (lv := [(0, .ref (q 0)), (1, .int x), (2, .int t)]) (ws := (zSt (zy E) q g)) (st := []) ?_ rfl rfl rfl
  refine z_iload_n h 2 rfl dX4_hasBlock_0 ?_
  refine z_if_lt h 17 dX4_hasBlock_1 (by decide) (fun c_1 => ?_) (fun c_1 => ?_)
  · refine z_iconst h (nI 0) (by decide +kernel) dX4_hasBlock_17 ?_
    exact z_zret h hf rfl rfl (by first | rfl | ((try simp only [hbl, if_pos c_1]) <;> (try rfl))) rfl dX4_hasBlock_18
  · refine z_iload_n h 2 rfl dX4_hasBlock_4 ?_
    refine z_aload_n h 0 rfl dX4_hasBlock_5 ?_
    refine z_iload_n h 1 rfl dX4_hasBlock_6 ?_
    refine z_callV h (As := [.int x]) (st := [.int t]) (ws2 := zSt (zy E) q g) (B := zSt (zy E) q g) (B' := zSt (zy E) q g) (r := some (.int (zhA g x))) 1 (c_X4_heightAt q g x) gX4_hasBlock_X4_heightAt (q0 := 0) (ci := 3) (by decide +kernel) rfl rfl rfl ⟨by decide, by decide⟩ [0, 1, 2, 3, 4, 5, 6, 7] rfl (by decide) rfl (Nat.le_of_ble_eq_true rfl) rfl rfl dX4_hasBlock_7 ?_ hkR
    refine z_icmp_ge h 17 dX4_hasBlock_10 (by decide) (fun c_10 => ?_) (fun c_10 => ?_)
    · refine z_iconst h (nI 0) (by decide +kernel) dX4_hasBlock_17 ?_
      exact z_zret h hf rfl rfl (by first | rfl | ((try simp only [hbl, if_neg c_1, if_pos c_10]) <;> (try rfl))) rfl dX4_hasBlock_18
    · refine z_iconst h (nI 1) (by decide +kernel) dX4_hasBlock_13 ?_
      refine z_goto h 18 dX4_hasBlock_14 (by decide) ?_
      exact z_zret h hf rfl rfl (by first | rfl | ((try simp only [hbl, if_neg c_1, if_neg c_10]) <;> (try rfl))) rfl dX4_hasBlock_18

set_option maxHeartbeats 4000000 in
set_option maxRecDepth 100000 in
/-- rateOf -/
theorem c_X4_rateOf {l : Launch} {y : zY} {D : va_G} (k : Int32) : zM l y D yX4_rateOf wsX4_rateOf 0 0 [.int k] ([]) ([]) (some (.int (rt k))) := by
  refine z_start (own := RX4) (cc := cX4_rateOf) (maxL := 1) (ret := (some .int)) rfl (by decide +kernel) rfl (Nat.le_of_ble_eq_true rfl) rfl ?_
  intro E hEl hEy hED h hf
  subst hEl hEy hED
  have hkR : 0 ≤ E.2.2.2.2.2.1.cells ∧ 0 ≤ E.2.2.2.2.2.1.slots := ⟨Nat.zero_le _, Nat.zero_le _⟩
  refine z_cast (lv := [(0, .int k)]) (ws := ([])) (st := []) ?_ rfl rfl rfl
  refine z_iload_n h 0 rfl dX4_rateOf_0 ?_
  by_cases c_1_0 : k = 0
  · refine z_look h (off := 27) 28 dX4_rateOf_1 (by decide +kernel) (by rw [c_1_0]; decide +kernel) (by decide) ?_
    refine z_bipush h (nI 6) (by decide +kernel) dX4_rateOf_28 ?_
    exact z_iret h hf rfl (by first | rfl | ((try simp only [rt, if_pos c_1_0]) <;> (try rfl))) rfl dX4_rateOf_30
  by_cases c_1_1 : k = 1
  · refine z_look h (off := 30) 31 dX4_rateOf_1 (by decide +kernel) (by rw [c_1_1]; decide +kernel) (by decide) ?_
    refine z_iconst h (nI 4) (by decide +kernel) dX4_rateOf_31 ?_
    exact z_iret h hf rfl (by first | rfl | ((try simp only [rt, if_neg c_1_0, if_pos c_1_1]) <;> (try rfl))) rfl dX4_rateOf_32
  refine z_look h (off := 32) 33 dX4_rateOf_1 (by decide +kernel) (by show Op.lookupswitch.offset [(0, 27), (1, 30)] _ _ = _; rw [lv_osw c_1_0 (by decide +kernel)]; rw [lv_osw c_1_1 (by decide +kernel)]; rfl) (by decide) ?_
  refine z_iconst h (nI 2) (by decide +kernel) dX4_rateOf_33 ?_
  exact z_iret h hf rfl (by first | rfl | ((try simp only [rt, if_neg c_1_0, if_neg c_1_1]) <;> (try rfl))) rfl dX4_rateOf_34

theorem iX4_volumeOf_X4 : ∀ w ∈ u_ws RX4 TX4 7, w ∈ wsX4_volumeOf := by decide +kernel
set_option maxHeartbeats 4000000 in
set_option maxRecDepth 100000 in
/-- volumeOf -/
theorem c_X4_volumeOf {l : Launch} {y : zY} {D : va_G} (q : Nat → Nat) (g : Nat → Nat → Int32) (s : Nat) (hs : s < 8) (hg : okH g) : zM l y D yX4_volumeOf wsX4_volumeOf 1 21 [.ref (q 0), .int (nI s)] (zSt y q g) (zSt y q g) (some (.int (vSum (g 7) (s * 6) (zh g s)))) := by
  refine z_start (own := RX4) (cc := cX4_volumeOf) (maxL := 4) (ret := (some .int)) rfl (by decide +kernel) rfl (Nat.le_of_ble_eq_true rfl) rfl ?_
  intro E hEl hEy hED h hf
  subst hEl hEy hED
  have hkR : 0 ≤ E.2.2.2.2.2.1.cells ∧ 0 ≤ E.2.2.2.2.2.1.slots := ⟨Nat.zero_le _, Nat.zero_le _⟩
  refine z_cast (lv := [(0, .ref (q 0)), (1, .int (nI s))]) (ws := (zSt (zy E) q g)) (st := []) ?_ rfl rfl rfl
  refine z_iconst h (nI 0) (by decide +kernel) dX4_volumeOf_0 ?_
  refine z_istore_n h (by decide) (lv' := [(2, .int (nI 0)), (0, .ref (q 0)), (1, .int (nI s))]) rfl dX4_volumeOf_1 ?_
  refine z_iconst h (nI 0) (by decide +kernel) dX4_volumeOf_2 ?_
  refine z_istore_n h (by decide) (lv' := [(3, .int (nI 0)), (2, .int (nI 0)), (0, .ref (q 0)), (1, .int (nI s))]) rfl dX4_volumeOf_3 ?_
  have lp_4 : ∀ (d_4 i : Nat), (zh g s) < i + d_4 → i ≤ (zh g s) → Z E 0 0 [(0, .ref (q 0)), (1, .int (nI s)), (2, .int (vSum (g 7) (s * 6) i)), (3, .int (nI i))] (zSt (zy E) q g) 4 [] := by
    intro d_4
    induction d_4 with
    | zero => intro i  q1 q2; omega
    | succ d_4 ih_4 =>
      intro i  q1_4 q2_4 
      have hz := (hg s hs).2
      refine z_iload_n h 3 rfl dX4_volumeOf_4 ?_
      refine z_aload_n h 0 rfl dX4_volumeOf_5 ?_
      refine z_get h 0 3 0 (v := .ref (q 1)) rfl rfl iX4_volumeOf_X4 (by decide) (List.mem_of_getElem? (i := 1) (by decide +kernel)) rfl rfl dX4_volumeOf_6 ?_
      refine z_iload_n h 1 rfl dX4_volumeOf_9 ?_
      refine z_iald h 1 s (f := g 2) rfl rfl rfl (by omega) (by decide) dX4_volumeOf_10 ?_
      refine z_top (nI (zh g s)) (hg s hs).1 ?_
      refine z_icmp_ge h 33 dX4_volumeOf_11 (by decide) (fun c_11 => ?_) (fun c_11 => ?_)
      · have k_11 : (zh g s) ≤ i := (nI_leI (by omega) (by omega)).mp c_11
        obtain rfl : i = zh g s := by omega
        refine z_iload_n h 2 rfl dX4_volumeOf_33 ?_
        exact z_iret h hf rfl rfl rfl dX4_volumeOf_34
      · have k_11 : ¬ ((zh g s) ≤ i) := fun q => c_11 ((nI_leI (by omega) (by omega)).mpr q)
        refine z_iload_n h 2 rfl dX4_volumeOf_14 ?_
        refine z_aload_n h 0 rfl dX4_volumeOf_15 ?_
        refine z_get h 0 3 5 (v := .ref (q 6)) rfl rfl iX4_volumeOf_X4 (by decide) (List.mem_of_getElem? (i := 2) (by decide +kernel)) rfl rfl dX4_volumeOf_16 ?_
        refine z_iload_n h 1 rfl dX4_volumeOf_19 ?_
        refine z_iload_n h 3 rfl dX4_volumeOf_20 ?_
        refine z_callSN h (As := [.int (nI s), .int (nI i)]) (st := [.ref (q 6), .int (vSum (g 7) (s * 6) i)]) (ws2 := zSt (zy E) q g) (B := []) (B' := []) (r := some (.int (nI (s * 6 + i)))) 2 (c_X9_placeOf s i) gX4_volumeOf_X9_placeOf_n41 (host := "SnowSites") (by decide +kernel) (List.mem_of_getElem? (i := 4) (by decide +kernel)) (List.mem_of_getElem? (i := 3) (by decide +kernel)) (by decide +kernel) rfl ⟨by decide, by decide⟩ [] rfl (by decide) rfl (Nat.le_of_ble_eq_true rfl) rfl rfl dX4_volumeOf_21 ?_ hkR
        refine z_iald h 6 (s * 6 + i) (f := g 7) rfl rfl rfl (by omega) (by decide) dX4_volumeOf_24 ?_
        refine z_iadd h dX4_volumeOf_25 ?_
        refine z_istore_n h (by decide) (lv' := [(2, .int ((vSum (g 7) (s * 6) i) + ((g 7) (s * 6 + i)))), (0, .ref (q 0)), (1, .int (nI s)), (3, .int (nI i))]) rfl dX4_volumeOf_26 ?_
        refine z_iinc h 3 (nI (i + 1)) rfl z_i1 (by decide) (lv' := [(3, .int (nI (i + 1))), (2, .int ((vSum (g 7) (s * 6) i) + ((g 7) (s * 6 + i)))), (0, .ref (q 0)), (1, .int (nI s))]) rfl dX4_volumeOf_27 ?_
        refine z_goto h 4 dX4_volumeOf_30 (by decide) ?_
        refine z_sub [2, 3, 1, 0] (lv' := [(0, .ref (q 0)), (1, .int (nI s)), (2, .int ((vSum (g 7) (s * 6) i) + ((g 7) (s * 6 + i)))), (3, .int (nI (i + 1)))]) rfl ?_
        exact z_cast (ih_4 (i + 1) (by omega) (by omega)) rfl rfl rfl
  refine z_sub [2, 3, 1, 0] (lv' := [(0, .ref (q 0)), (1, .int (nI s)), (2, .int (nI 0)), (3, .int (nI 0))]) rfl ?_
  exact z_cast (lp_4 ((zh g s) + 1) 0 (by omega) (by omega)) rfl rfl rfl

set_option maxHeartbeats 4000000 in
set_option maxRecDepth 100000 in
/-- volumeOfAll -/
theorem c_X4_volumeOfAll {l : Launch} {y : zY} {D : va_G} (q : Nat → Nat) (g : Nat → Nat → Int32) (hg : okH g) : zM l y D yX4_volumeOfAll wsX4_volumeOfAll 2 44 [.ref (q 0)] (zSt y q g) (zSt y q g) (some (.int (vAll g 8))) := by
  refine z_start (own := RX4) (cc := cX4_volumeOfAll) (maxL := 3) (ret := (some .int)) rfl (by decide +kernel) rfl (Nat.le_of_ble_eq_true rfl) rfl ?_
  intro E hEl hEy hED h hf
  subst hEl hEy hED
  have hkR : 0 ≤ E.2.2.2.2.2.1.cells ∧ 0 ≤ E.2.2.2.2.2.1.slots := ⟨Nat.zero_le _, Nat.zero_le _⟩
  refine z_cast (lv := [(0, .ref (q 0))]) (ws := (zSt (zy E) q g)) (st := []) ?_ rfl rfl rfl
  refine z_iconst h (nI 0) (by decide +kernel) dX4_volumeOfAll_0 ?_
  refine z_istore_n h (by decide) (lv' := [(1, .int (nI 0)), (0, .ref (q 0))]) rfl dX4_volumeOfAll_1 ?_
  refine z_iconst h (nI 0) (by decide +kernel) dX4_volumeOfAll_2 ?_
  refine z_istore_n h (by decide) (lv' := [(2, .int (nI 0)), (1, .int (nI 0)), (0, .ref (q 0))]) rfl dX4_volumeOfAll_3 ?_
  have lp_4 : ∀ (d_4 s : Nat), 8 < s + d_4 → s ≤ 8 → Z E 0 0 [(0, .ref (q 0)), (1, .int (vAll g s)), (2, .int (nI s))] (zSt (zy E) q g) 4 [] := by
    intro d_4
    induction d_4 with
    | zero => intro s  q1 q2; omega
    | succ d_4 ih_4 =>
      intro s  q1_4 q2_4 
      refine z_iload_n h 2 rfl dX4_volumeOfAll_4 ?_
      refine z_bipush h (nI 8) (by decide +kernel) dX4_volumeOfAll_5 ?_
      refine z_icmp_ge h 24 dX4_volumeOfAll_7 (by decide) (fun c_7 => ?_) (fun c_7 => ?_)
      · have k_7 : 8 ≤ s := (nI_leI (by omega) (by omega)).mp c_7
        obtain rfl : s = 8 := by omega
        refine z_iload_n h 1 rfl dX4_volumeOfAll_24 ?_
        exact z_iret h hf rfl rfl rfl dX4_volumeOfAll_25
      · have k_7 : ¬ (8 ≤ s) := fun q => c_7 ((nI_leI (by omega) (by omega)).mpr q)
        refine z_iload_n h 1 rfl dX4_volumeOfAll_10 ?_
        refine z_aload_n h 0 rfl dX4_volumeOfAll_11 ?_
        refine z_iload_n h 2 rfl dX4_volumeOfAll_12 ?_
        refine z_callV h (As := [.int (nI s)]) (st := [.int (vAll g s)]) (ws2 := zSt (zy E) q g) (B := zSt (zy E) q g) (B' := zSt (zy E) q g) (r := some (.int (vSum (g 7) (s * 6) (zh g s)))) 1 (c_X4_volumeOf q g s (by omega) hg) gX4_volumeOfAll_X4_volumeOf (q0 := 0) (ci := 3) (by decide +kernel) rfl rfl rfl ⟨by decide, by decide⟩ [0, 1, 2, 3, 4, 5, 6, 7] rfl (by decide) rfl (Nat.le_of_ble_eq_true rfl) rfl rfl dX4_volumeOfAll_13 ?_ hkR
        refine z_iadd h dX4_volumeOfAll_16 ?_
        refine z_istore_n h (by decide) (lv' := [(1, .int ((vAll g s) + (vSum (g 7) (s * 6) (zh g s)))), (0, .ref (q 0)), (2, .int (nI s))]) rfl dX4_volumeOfAll_17 ?_
        refine z_iinc h 2 (nI (s + 1)) rfl z_i1 (by decide) (lv' := [(2, .int (nI (s + 1))), (1, .int ((vAll g s) + (vSum (g 7) (s * 6) (zh g s)))), (0, .ref (q 0))]) rfl dX4_volumeOfAll_18 ?_
        refine z_goto h 4 dX4_volumeOfAll_21 (by decide) ?_
        refine z_sub [2, 1, 0] (lv' := [(0, .ref (q 0)), (1, .int ((vAll g s) + (vSum (g 7) (s * 6) (zh g s)))), (2, .int (nI (s + 1)))]) rfl ?_
        exact z_cast (ih_4 (s + 1) (by omega) (by omega)) rfl rfl rfl
  refine z_sub [2, 1, 0] (lv' := [(0, .ref (q 0)), (1, .int (nI 0)), (2, .int (nI 0))]) rfl ?_
  exact z_cast (lp_4 (8 + 1) 0 (by omega) (by omega)) rfl rfl rfl

theorem iX4_sculptures_X4 : ∀ w ∈ u_ws RX4 TX4 7, w ∈ wsX4_sculptures := by decide +kernel
set_option maxHeartbeats 4000000 in
set_option maxRecDepth 100000 in
/-- sculptures -/
theorem c_X4_sculptures {l : Launch} {y : zY} {D : va_G} (q : Nat → Nat) (g : Nat → Nat → Int32) : zM l y D yX4_sculptures wsX4_sculptures 0 0 [.ref (q 0)] (zSt y q g) (zSt y q g) (some (.int (scN g 8))) := by
  refine z_start (own := RX4) (cc := cX4_sculptures) (maxL := 3) (ret := (some .int)) rfl (by decide +kernel) rfl (Nat.le_of_ble_eq_true rfl) rfl ?_
  intro E hEl hEy hED h hf
  subst hEl hEy hED
  have hkR : 0 ≤ E.2.2.2.2.2.1.cells ∧ 0 ≤ E.2.2.2.2.2.1.slots := ⟨Nat.zero_le _, Nat.zero_le _⟩
  refine z_cast (lv := [(0, .ref (q 0))]) (ws := (zSt (zy E) q g)) (st := []) ?_ rfl rfl rfl
  refine z_iconst h (nI 0) (by decide +kernel) dX4_sculptures_0 ?_
  refine z_istore_n h (by decide) (lv' := [(1, .int (nI 0)), (0, .ref (q 0))]) rfl dX4_sculptures_1 ?_
  refine z_iconst h (nI 0) (by decide +kernel) dX4_sculptures_2 ?_
  refine z_istore_n h (by decide) (lv' := [(2, .int (nI 0)), (1, .int (nI 0)), (0, .ref (q 0))]) rfl dX4_sculptures_3 ?_
  have lp_4 : ∀ (d_4 s : Nat), 8 < s + d_4 → s ≤ 8 → Z E 0 0 [(0, .ref (q 0)), (1, .int (scN g s)), (2, .int (nI s))] (zSt (zy E) q g) 4 [] := by
    intro d_4
    induction d_4 with
    | zero => intro s  q1 q2; omega
    | succ d_4 ih_4 =>
      intro s  q1_4 q2_4 
      refine z_iload_n h 2 rfl dX4_sculptures_4 ?_
      refine z_bipush h (nI 8) (by decide +kernel) dX4_sculptures_5 ?_
      refine z_icmp_ge h 33 dX4_sculptures_7 (by decide) (fun c_7 => ?_) (fun c_7 => ?_)
      · have k_7 : 8 ≤ s := (nI_leI (by omega) (by omega)).mp c_7
        obtain rfl : s = 8 := by omega
        refine z_iload_n h 1 rfl dX4_sculptures_33 ?_
        exact z_iret h hf rfl rfl rfl dX4_sculptures_34
      · have k_7 : ¬ (8 ≤ s) := fun q => c_7 ((nI_leI (by omega) (by omega)).mpr q)
        refine z_iload_n h 1 rfl dX4_sculptures_10 ?_
        refine z_aload_n h 0 rfl dX4_sculptures_11 ?_
        refine z_get h 0 3 0 (v := .ref (q 1)) rfl rfl iX4_sculptures_X4 (by decide) (List.mem_of_getElem? (i := 1) (by decide +kernel)) rfl rfl dX4_sculptures_12 ?_
        refine z_iload_n h 2 rfl dX4_sculptures_15 ?_
        refine z_iald h 1 s (f := g 2) rfl rfl rfl (by omega) (by decide) dX4_sculptures_16 ?_
        refine z_if_le h 24 dX4_sculptures_17 (by decide) (fun c_17 => ?_) (fun c_17 => ?_)
        · refine z_iconst h (nI 0) (by decide +kernel) dX4_sculptures_24 ?_
          refine z_iadd h dX4_sculptures_25 ?_
          refine z_istore_n h (by decide) (lv' := [(1, .int ((scN g s) + (nI 0))), (0, .ref (q 0)), (2, .int (nI s))]) rfl dX4_sculptures_26 ?_
          refine z_iinc h 2 (nI (s + 1)) rfl z_i1 (by decide) (lv' := [(2, .int (nI (s + 1))), (1, .int ((scN g s) + (nI 0))), (0, .ref (q 0))]) rfl dX4_sculptures_27 ?_
          refine z_goto h 4 dX4_sculptures_30 (by decide) ?_
          refine z_sub [2, 1, 0] (lv' := [(0, .ref (q 0)), (1, .int ((scN g s) + (nI 0))), (2, .int (nI (s + 1)))]) rfl ?_
          exact z_cast (ih_4 (s + 1) (by omega) (by omega)) (by simp only [scN, if_neg c_7, if_pos c_17]) rfl rfl
        · refine z_iconst h (nI 1) (by decide +kernel) dX4_sculptures_20 ?_
          refine z_goto h 25 dX4_sculptures_21 (by decide) ?_
          refine z_iadd h dX4_sculptures_25 ?_
          refine z_istore_n h (by decide) (lv' := [(1, .int ((scN g s) + (nI 1))), (0, .ref (q 0)), (2, .int (nI s))]) rfl dX4_sculptures_26 ?_
          refine z_iinc h 2 (nI (s + 1)) rfl z_i1 (by decide) (lv' := [(2, .int (nI (s + 1))), (1, .int ((scN g s) + (nI 1))), (0, .ref (q 0))]) rfl dX4_sculptures_27 ?_
          refine z_goto h 4 dX4_sculptures_30 (by decide) ?_
          refine z_sub [2, 1, 0] (lv' := [(0, .ref (q 0)), (1, .int ((scN g s) + (nI 1))), (2, .int (nI (s + 1)))]) rfl ?_
          exact z_cast (ih_4 (s + 1) (by omega) (by omega)) (by simp only [scN, if_neg c_7, if_neg c_17]) rfl rfl
  refine z_sub [2, 1, 0] (lv' := [(0, .ref (q 0)), (1, .int (nI 0)), (2, .int (nI 0))]) rfl ?_
  exact z_cast (lp_4 (8 + 1) 0 (by omega) (by omega)) rfl rfl rfl

theorem iX4_facesInSun_X4 : ∀ w ∈ u_ws RX4 TX4 7, w ∈ wsX4_facesInSun := by decide +kernel
set_option maxHeartbeats 4000000 in
set_option maxRecDepth 100000 in
/-- facesInSun -/
theorem c_X4_facesInSun {l : Launch} {y : zY} {D : va_G} (q : Nat → Nat) (g : Nat → Nat → Int32) (s t : Nat) (hr : Int32) (hs : s < 8) : zM l y D yX4_facesInSun wsX4_facesInSun 1 21 [.ref (q 0), .int (nI s), .int (nI t), .int hr] (zSt y q g) (zSt y q g) (some (.int (fcs g s t hr))) := by
  refine z_start (own := RX4) (cc := cX4_facesInSun) (maxL := 7) (ret := (some .int)) rfl (by decide +kernel) rfl (Nat.le_of_ble_eq_true rfl) rfl ?_
  intro E hEl hEy hED h hf
  subst hEl hEy hED
  have hkR : 0 ≤ E.2.2.2.2.2.1.cells ∧ 0 ≤ E.2.2.2.2.2.1.slots := ⟨Nat.zero_le _, Nat.zero_le _⟩
  refine z_cast (lv := [(0, .ref (q 0)), (1, .int (nI s)), (2, .int (nI t)), (3, .int hr)]) (ws := (zSt (zy E) q g)) (st := []) ?_ rfl rfl rfl
  refine z_iload_n h 3 rfl dX4_facesInSun_0 ?_
  refine z_iconst h (nI 4) (by decide +kernel) dX4_facesInSun_1 ?_
  refine z_icmp_ge h 26 dX4_facesInSun_2 (by decide) (fun c_2 => ?_) (fun c_2 => ?_)
  · refine z_iload_n h 3 rfl dX4_facesInSun_26 ?_
    refine z_bipush h (nI 8) (by decide +kernel) dX4_facesInSun_27 ?_
    refine z_icmp_ge h 52 dX4_facesInSun_29 (by decide) (fun c_29 => ?_) (fun c_29 => ?_)
    · refine z_iload_n h 2 rfl dX4_facesInSun_52 ?_
      refine z_aload_n h 0 rfl dX4_facesInSun_53 ?_
      refine z_iload_n h 1 rfl dX4_facesInSun_54 ?_
      refine z_iconst h (nI 1) (by decide +kernel) dX4_facesInSun_55 ?_
      refine z_isub h dX4_facesInSun_56 ?_
      refine z_top (nI s - nI 1) rfl ?_
      refine z_callV h (As := [.int (nI s - nI 1)]) (st := [.int (nI t)]) (ws2 := zSt (zy E) q g) (B := zSt (zy E) q g) (B' := zSt (zy E) q g) (r := some (.int (zhA g (nI s - nI 1)))) 1 (c_X4_heightAt q g (nI s - nI 1)) gX4_facesInSun_X4_heightAt (q0 := 0) (ci := 3) (by decide +kernel) rfl rfl rfl ⟨by decide, by decide⟩ [0, 1, 2, 3, 4, 5, 6, 7] rfl (by decide) rfl (Nat.le_of_ble_eq_true rfl) rfl rfl dX4_facesInSun_57 ?_ hkR
      refine z_icmp_ge h 67 dX4_facesInSun_60 (by decide) (fun c_60 => ?_) (fun c_60 => ?_)
      · refine z_iconst h (nI 0) (by decide +kernel) dX4_facesInSun_67 ?_
        refine z_istore h (by decide) (lv' := [(4, .int (nI 0)), (0, .ref (q 0)), (1, .int (nI s)), (2, .int (nI t)), (3, .int hr)]) rfl dX4_facesInSun_68 ?_
        refine z_iload h 0 rfl dX4_facesInSun_70 ?_
        refine z_if_eq h 79 dX4_facesInSun_72 (by decide) (fun c_72 => ?_) (fun c_72 => ?_)
        · refine z_iconst h (nI 1) (by decide +kernel) dX4_facesInSun_79 ?_
          refine z_istore h (by decide) (lv' := [(5, .int (nI 1)), (4, .int (nI 0)), (0, .ref (q 0)), (1, .int (nI s)), (2, .int (nI t)), (3, .int hr)]) rfl dX4_facesInSun_80 ?_
          refine z_iload_n h 4 rfl dX4_facesInSun_82 ?_
          refine z_aload_n h 2 rfl dX4_facesInSun_83 ?_
          refine z_get h 0 3 0 (v := .ref (q 1)) rfl rfl iX4_facesInSun_X4 (by decide) (List.mem_of_getElem? (i := 2) (by decide +kernel)) rfl rfl dX4_facesInSun_84 ?_
          refine z_iload_n h 3 rfl dX4_facesInSun_87 ?_
          refine z_iald h 1 s (f := g 2) rfl rfl rfl (by omega) (by decide) dX4_facesInSun_88 ?_
          refine z_iconst h (nI 1) (by decide +kernel) dX4_facesInSun_89 ?_
          refine z_isub h dX4_facesInSun_90 ?_
          refine z_icmp_ne h 98 dX4_facesInSun_91 (by decide) (fun c_91 => ?_) (fun c_91 => ?_)
          · refine z_iconst h (nI 0) (by decide +kernel) dX4_facesInSun_98 ?_
            refine z_istore h (by decide) (lv' := [(6, .int (nI 0)), (5, .int (nI 1)), (4, .int (nI 0)), (0, .ref (q 0)), (1, .int (nI s)), (2, .int (nI t)), (3, .int hr)]) rfl dX4_facesInSun_99 ?_
            refine z_iload h 1 rfl dX4_facesInSun_101 ?_
            refine z_iload h 0 rfl dX4_facesInSun_103 ?_
            refine z_iadd h dX4_facesInSun_105 ?_
            refine z_top (nI (1 + 0)) (nI_add _ _) ?_
            exact z_iret h hf rfl (by first | rfl | ((try simp only [fcs, fcS, if_pos c_2, if_pos c_29, if_pos c_60, if_neg c_91]) <;> (try rfl))) rfl dX4_facesInSun_106
          · refine z_iconst h (nI 1) (by decide +kernel) dX4_facesInSun_94 ?_
            refine z_goto h 99 dX4_facesInSun_95 (by decide) ?_
            refine z_istore h (by decide) (lv' := [(6, .int (nI 1)), (5, .int (nI 1)), (4, .int (nI 0)), (0, .ref (q 0)), (1, .int (nI s)), (2, .int (nI t)), (3, .int hr)]) rfl dX4_facesInSun_99 ?_
            refine z_iload h 1 rfl dX4_facesInSun_101 ?_
            refine z_iload h 0 rfl dX4_facesInSun_103 ?_
            refine z_iadd h dX4_facesInSun_105 ?_
            refine z_top (nI (1 + 1)) (nI_add _ _) ?_
            exact z_iret h hf rfl (by first | rfl | ((try simp only [fcs, fcS, if_pos c_2, if_pos c_29, if_pos c_60, if_pos c_91]) <;> (try rfl))) rfl dX4_facesInSun_106
        · exact absurd c_72 (by decide +kernel)
      · refine z_iconst h (nI 1) (by decide +kernel) dX4_facesInSun_63 ?_
        refine z_goto h 68 dX4_facesInSun_64 (by decide) ?_
        refine z_istore h (by decide) (lv' := [(4, .int (nI 1)), (0, .ref (q 0)), (1, .int (nI s)), (2, .int (nI t)), (3, .int hr)]) rfl dX4_facesInSun_68 ?_
        refine z_iload h 0 rfl dX4_facesInSun_70 ?_
        refine z_if_eq h 79 dX4_facesInSun_72 (by decide) (fun c_72 => ?_) (fun c_72 => ?_)
        · exact absurd c_72 (by decide +kernel)
        · refine z_iconst h (nI 0) (by decide +kernel) dX4_facesInSun_75 ?_
          refine z_goto h 80 dX4_facesInSun_76 (by decide) ?_
          refine z_istore h (by decide) (lv' := [(5, .int (nI 0)), (4, .int (nI 1)), (0, .ref (q 0)), (1, .int (nI s)), (2, .int (nI t)), (3, .int hr)]) rfl dX4_facesInSun_80 ?_
          refine z_iload_n h 4 rfl dX4_facesInSun_82 ?_
          refine z_aload_n h 2 rfl dX4_facesInSun_83 ?_
          refine z_get h 0 3 0 (v := .ref (q 1)) rfl rfl iX4_facesInSun_X4 (by decide) (List.mem_of_getElem? (i := 2) (by decide +kernel)) rfl rfl dX4_facesInSun_84 ?_
          refine z_iload_n h 3 rfl dX4_facesInSun_87 ?_
          refine z_iald h 1 s (f := g 2) rfl rfl rfl (by omega) (by decide) dX4_facesInSun_88 ?_
          refine z_iconst h (nI 1) (by decide +kernel) dX4_facesInSun_89 ?_
          refine z_isub h dX4_facesInSun_90 ?_
          refine z_icmp_ne h 98 dX4_facesInSun_91 (by decide) (fun c_91 => ?_) (fun c_91 => ?_)
          · refine z_iconst h (nI 0) (by decide +kernel) dX4_facesInSun_98 ?_
            refine z_istore h (by decide) (lv' := [(6, .int (nI 0)), (5, .int (nI 0)), (4, .int (nI 1)), (0, .ref (q 0)), (1, .int (nI s)), (2, .int (nI t)), (3, .int hr)]) rfl dX4_facesInSun_99 ?_
            refine z_iload h 1 rfl dX4_facesInSun_101 ?_
            refine z_iload h 0 rfl dX4_facesInSun_103 ?_
            refine z_iadd h dX4_facesInSun_105 ?_
            refine z_top (nI (0 + 0)) (nI_add _ _) ?_
            exact z_iret h hf rfl (by first | rfl | ((try simp only [fcs, fcS, if_pos c_2, if_pos c_29, if_neg c_60, if_neg c_91]) <;> (try rfl))) rfl dX4_facesInSun_106
          · refine z_iconst h (nI 1) (by decide +kernel) dX4_facesInSun_94 ?_
            refine z_goto h 99 dX4_facesInSun_95 (by decide) ?_
            refine z_istore h (by decide) (lv' := [(6, .int (nI 1)), (5, .int (nI 0)), (4, .int (nI 1)), (0, .ref (q 0)), (1, .int (nI s)), (2, .int (nI t)), (3, .int hr)]) rfl dX4_facesInSun_99 ?_
            refine z_iload h 1 rfl dX4_facesInSun_101 ?_
            refine z_iload h 0 rfl dX4_facesInSun_103 ?_
            refine z_iadd h dX4_facesInSun_105 ?_
            refine z_top (nI (0 + 1)) (nI_add _ _) ?_
            exact z_iret h hf rfl (by first | rfl | ((try simp only [fcs, fcS, if_pos c_2, if_pos c_29, if_neg c_60, if_pos c_91]) <;> (try rfl))) rfl dX4_facesInSun_106
    · refine z_aload_n h 0 rfl dX4_facesInSun_32 ?_
      refine z_get h 0 3 1 (v := .ref (q 2)) rfl rfl iX4_facesInSun_X4 (by decide) (List.mem_of_getElem? (i := 1) (by decide +kernel)) rfl rfl dX4_facesInSun_33 ?_
      refine z_iload_n h 1 rfl dX4_facesInSun_36 ?_
      refine z_iald h 2 s (f := g 3) rfl rfl rfl (by omega) (by decide) dX4_facesInSun_37 ?_
      refine z_iconst h (nI 1) (by decide +kernel) dX4_facesInSun_38 ?_
      refine z_icmp_ne h 46 dX4_facesInSun_39 (by decide) (fun c_39 => ?_) (fun c_39 => ?_)
      · refine z_iconst h (nI 0) (by decide +kernel) dX4_facesInSun_46 ?_
        refine z_istore h (by decide) (lv' := [(4, .int (nI 0)), (0, .ref (q 0)), (1, .int (nI s)), (2, .int (nI t)), (3, .int hr)]) rfl dX4_facesInSun_47 ?_
        refine z_goto h 70 dX4_facesInSun_49 (by decide) ?_
        refine z_iload h 0 rfl dX4_facesInSun_70 ?_
        refine z_if_eq h 79 dX4_facesInSun_72 (by decide) (fun c_72 => ?_) (fun c_72 => ?_)
        · refine z_iconst h (nI 1) (by decide +kernel) dX4_facesInSun_79 ?_
          refine z_istore h (by decide) (lv' := [(5, .int (nI 1)), (4, .int (nI 0)), (0, .ref (q 0)), (1, .int (nI s)), (2, .int (nI t)), (3, .int hr)]) rfl dX4_facesInSun_80 ?_
          refine z_iload_n h 4 rfl dX4_facesInSun_82 ?_
          refine z_aload_n h 2 rfl dX4_facesInSun_83 ?_
          refine z_get h 0 3 0 (v := .ref (q 1)) rfl rfl iX4_facesInSun_X4 (by decide) (List.mem_of_getElem? (i := 2) (by decide +kernel)) rfl rfl dX4_facesInSun_84 ?_
          refine z_iload_n h 3 rfl dX4_facesInSun_87 ?_
          refine z_iald h 1 s (f := g 2) rfl rfl rfl (by omega) (by decide) dX4_facesInSun_88 ?_
          refine z_iconst h (nI 1) (by decide +kernel) dX4_facesInSun_89 ?_
          refine z_isub h dX4_facesInSun_90 ?_
          refine z_icmp_ne h 98 dX4_facesInSun_91 (by decide) (fun c_91 => ?_) (fun c_91 => ?_)
          · refine z_iconst h (nI 0) (by decide +kernel) dX4_facesInSun_98 ?_
            refine z_istore h (by decide) (lv' := [(6, .int (nI 0)), (5, .int (nI 1)), (4, .int (nI 0)), (0, .ref (q 0)), (1, .int (nI s)), (2, .int (nI t)), (3, .int hr)]) rfl dX4_facesInSun_99 ?_
            refine z_iload h 1 rfl dX4_facesInSun_101 ?_
            refine z_iload h 0 rfl dX4_facesInSun_103 ?_
            refine z_iadd h dX4_facesInSun_105 ?_
            refine z_top (nI (1 + 0)) (nI_add _ _) ?_
            exact z_iret h hf rfl (by first | rfl | ((try simp only [fcs, fcS, if_pos c_2, if_neg c_29, if_neg c_39, if_neg c_91]) <;> (try rfl))) rfl dX4_facesInSun_106
          · refine z_iconst h (nI 1) (by decide +kernel) dX4_facesInSun_94 ?_
            refine z_goto h 99 dX4_facesInSun_95 (by decide) ?_
            refine z_istore h (by decide) (lv' := [(6, .int (nI 1)), (5, .int (nI 1)), (4, .int (nI 0)), (0, .ref (q 0)), (1, .int (nI s)), (2, .int (nI t)), (3, .int hr)]) rfl dX4_facesInSun_99 ?_
            refine z_iload h 1 rfl dX4_facesInSun_101 ?_
            refine z_iload h 0 rfl dX4_facesInSun_103 ?_
            refine z_iadd h dX4_facesInSun_105 ?_
            refine z_top (nI (1 + 1)) (nI_add _ _) ?_
            exact z_iret h hf rfl (by first | rfl | ((try simp only [fcs, fcS, if_pos c_2, if_neg c_29, if_neg c_39, if_pos c_91]) <;> (try rfl))) rfl dX4_facesInSun_106
        · exact absurd c_72 (by decide +kernel)
      · refine z_iconst h (nI 1) (by decide +kernel) dX4_facesInSun_42 ?_
        refine z_goto h 47 dX4_facesInSun_43 (by decide) ?_
        refine z_istore h (by decide) (lv' := [(4, .int (nI 1)), (0, .ref (q 0)), (1, .int (nI s)), (2, .int (nI t)), (3, .int hr)]) rfl dX4_facesInSun_47 ?_
        refine z_goto h 70 dX4_facesInSun_49 (by decide) ?_
        refine z_iload h 0 rfl dX4_facesInSun_70 ?_
        refine z_if_eq h 79 dX4_facesInSun_72 (by decide) (fun c_72 => ?_) (fun c_72 => ?_)
        · exact absurd c_72 (by decide +kernel)
        · refine z_iconst h (nI 0) (by decide +kernel) dX4_facesInSun_75 ?_
          refine z_goto h 80 dX4_facesInSun_76 (by decide) ?_
          refine z_istore h (by decide) (lv' := [(5, .int (nI 0)), (4, .int (nI 1)), (0, .ref (q 0)), (1, .int (nI s)), (2, .int (nI t)), (3, .int hr)]) rfl dX4_facesInSun_80 ?_
          refine z_iload_n h 4 rfl dX4_facesInSun_82 ?_
          refine z_aload_n h 2 rfl dX4_facesInSun_83 ?_
          refine z_get h 0 3 0 (v := .ref (q 1)) rfl rfl iX4_facesInSun_X4 (by decide) (List.mem_of_getElem? (i := 2) (by decide +kernel)) rfl rfl dX4_facesInSun_84 ?_
          refine z_iload_n h 3 rfl dX4_facesInSun_87 ?_
          refine z_iald h 1 s (f := g 2) rfl rfl rfl (by omega) (by decide) dX4_facesInSun_88 ?_
          refine z_iconst h (nI 1) (by decide +kernel) dX4_facesInSun_89 ?_
          refine z_isub h dX4_facesInSun_90 ?_
          refine z_icmp_ne h 98 dX4_facesInSun_91 (by decide) (fun c_91 => ?_) (fun c_91 => ?_)
          · refine z_iconst h (nI 0) (by decide +kernel) dX4_facesInSun_98 ?_
            refine z_istore h (by decide) (lv' := [(6, .int (nI 0)), (5, .int (nI 0)), (4, .int (nI 1)), (0, .ref (q 0)), (1, .int (nI s)), (2, .int (nI t)), (3, .int hr)]) rfl dX4_facesInSun_99 ?_
            refine z_iload h 1 rfl dX4_facesInSun_101 ?_
            refine z_iload h 0 rfl dX4_facesInSun_103 ?_
            refine z_iadd h dX4_facesInSun_105 ?_
            refine z_top (nI (0 + 0)) (nI_add _ _) ?_
            exact z_iret h hf rfl (by first | rfl | ((try simp only [fcs, fcS, if_pos c_2, if_neg c_29, if_pos c_39, if_neg c_91]) <;> (try rfl))) rfl dX4_facesInSun_106
          · refine z_iconst h (nI 1) (by decide +kernel) dX4_facesInSun_94 ?_
            refine z_goto h 99 dX4_facesInSun_95 (by decide) ?_
            refine z_istore h (by decide) (lv' := [(6, .int (nI 1)), (5, .int (nI 0)), (4, .int (nI 1)), (0, .ref (q 0)), (1, .int (nI s)), (2, .int (nI t)), (3, .int hr)]) rfl dX4_facesInSun_99 ?_
            refine z_iload h 1 rfl dX4_facesInSun_101 ?_
            refine z_iload h 0 rfl dX4_facesInSun_103 ?_
            refine z_iadd h dX4_facesInSun_105 ?_
            refine z_top (nI (0 + 1)) (nI_add _ _) ?_
            exact z_iret h hf rfl (by first | rfl | ((try simp only [fcs, fcS, if_pos c_2, if_neg c_29, if_pos c_39, if_pos c_91]) <;> (try rfl))) rfl dX4_facesInSun_106
  · refine z_iload_n h 2 rfl dX4_facesInSun_5 ?_
    refine z_aload_n h 0 rfl dX4_facesInSun_6 ?_
    refine z_iload_n h 1 rfl dX4_facesInSun_7 ?_
    refine z_iconst h (nI 1) (by decide +kernel) dX4_facesInSun_8 ?_
    refine z_iadd h dX4_facesInSun_9 ?_
    refine z_top (nI s + nI 1) rfl ?_
    refine z_callV h (As := [.int (nI s + nI 1)]) (st := [.int (nI t)]) (ws2 := zSt (zy E) q g) (B := zSt (zy E) q g) (B' := zSt (zy E) q g) (r := some (.int (zhA g (nI s + nI 1)))) 1 (c_X4_heightAt q g (nI s + nI 1)) gX4_facesInSun_X4_heightAt (q0 := 0) (ci := 3) (by decide +kernel) rfl rfl rfl ⟨by decide, by decide⟩ [0, 1, 2, 3, 4, 5, 6, 7] rfl (by decide) rfl (Nat.le_of_ble_eq_true rfl) rfl rfl dX4_facesInSun_10 ?_ hkR
    refine z_icmp_ge h 20 dX4_facesInSun_13 (by decide) (fun c_13 => ?_) (fun c_13 => ?_)
    · refine z_iconst h (nI 0) (by decide +kernel) dX4_facesInSun_20 ?_
      refine z_istore h (by decide) (lv' := [(4, .int (nI 0)), (0, .ref (q 0)), (1, .int (nI s)), (2, .int (nI t)), (3, .int hr)]) rfl dX4_facesInSun_21 ?_
      refine z_goto h 70 dX4_facesInSun_23 (by decide) ?_
      refine z_iload h 0 rfl dX4_facesInSun_70 ?_
      refine z_if_eq h 79 dX4_facesInSun_72 (by decide) (fun c_72 => ?_) (fun c_72 => ?_)
      · refine z_iconst h (nI 1) (by decide +kernel) dX4_facesInSun_79 ?_
        refine z_istore h (by decide) (lv' := [(5, .int (nI 1)), (4, .int (nI 0)), (0, .ref (q 0)), (1, .int (nI s)), (2, .int (nI t)), (3, .int hr)]) rfl dX4_facesInSun_80 ?_
        refine z_iload_n h 4 rfl dX4_facesInSun_82 ?_
        refine z_aload_n h 2 rfl dX4_facesInSun_83 ?_
        refine z_get h 0 3 0 (v := .ref (q 1)) rfl rfl iX4_facesInSun_X4 (by decide) (List.mem_of_getElem? (i := 2) (by decide +kernel)) rfl rfl dX4_facesInSun_84 ?_
        refine z_iload_n h 3 rfl dX4_facesInSun_87 ?_
        refine z_iald h 1 s (f := g 2) rfl rfl rfl (by omega) (by decide) dX4_facesInSun_88 ?_
        refine z_iconst h (nI 1) (by decide +kernel) dX4_facesInSun_89 ?_
        refine z_isub h dX4_facesInSun_90 ?_
        refine z_icmp_ne h 98 dX4_facesInSun_91 (by decide) (fun c_91 => ?_) (fun c_91 => ?_)
        · refine z_iconst h (nI 0) (by decide +kernel) dX4_facesInSun_98 ?_
          refine z_istore h (by decide) (lv' := [(6, .int (nI 0)), (5, .int (nI 1)), (4, .int (nI 0)), (0, .ref (q 0)), (1, .int (nI s)), (2, .int (nI t)), (3, .int hr)]) rfl dX4_facesInSun_99 ?_
          refine z_iload h 1 rfl dX4_facesInSun_101 ?_
          refine z_iload h 0 rfl dX4_facesInSun_103 ?_
          refine z_iadd h dX4_facesInSun_105 ?_
          refine z_top (nI (1 + 0)) (nI_add _ _) ?_
          exact z_iret h hf rfl (by first | rfl | ((try simp only [fcs, fcS, if_neg c_2, if_pos c_13, if_neg c_91]) <;> (try rfl))) rfl dX4_facesInSun_106
        · refine z_iconst h (nI 1) (by decide +kernel) dX4_facesInSun_94 ?_
          refine z_goto h 99 dX4_facesInSun_95 (by decide) ?_
          refine z_istore h (by decide) (lv' := [(6, .int (nI 1)), (5, .int (nI 1)), (4, .int (nI 0)), (0, .ref (q 0)), (1, .int (nI s)), (2, .int (nI t)), (3, .int hr)]) rfl dX4_facesInSun_99 ?_
          refine z_iload h 1 rfl dX4_facesInSun_101 ?_
          refine z_iload h 0 rfl dX4_facesInSun_103 ?_
          refine z_iadd h dX4_facesInSun_105 ?_
          refine z_top (nI (1 + 1)) (nI_add _ _) ?_
          exact z_iret h hf rfl (by first | rfl | ((try simp only [fcs, fcS, if_neg c_2, if_pos c_13, if_pos c_91]) <;> (try rfl))) rfl dX4_facesInSun_106
      · exact absurd c_72 (by decide +kernel)
    · refine z_iconst h (nI 1) (by decide +kernel) dX4_facesInSun_16 ?_
      refine z_goto h 21 dX4_facesInSun_17 (by decide) ?_
      refine z_istore h (by decide) (lv' := [(4, .int (nI 1)), (0, .ref (q 0)), (1, .int (nI s)), (2, .int (nI t)), (3, .int hr)]) rfl dX4_facesInSun_21 ?_
      refine z_goto h 70 dX4_facesInSun_23 (by decide) ?_
      refine z_iload h 0 rfl dX4_facesInSun_70 ?_
      refine z_if_eq h 79 dX4_facesInSun_72 (by decide) (fun c_72 => ?_) (fun c_72 => ?_)
      · exact absurd c_72 (by decide +kernel)
      · refine z_iconst h (nI 0) (by decide +kernel) dX4_facesInSun_75 ?_
        refine z_goto h 80 dX4_facesInSun_76 (by decide) ?_
        refine z_istore h (by decide) (lv' := [(5, .int (nI 0)), (4, .int (nI 1)), (0, .ref (q 0)), (1, .int (nI s)), (2, .int (nI t)), (3, .int hr)]) rfl dX4_facesInSun_80 ?_
        refine z_iload_n h 4 rfl dX4_facesInSun_82 ?_
        refine z_aload_n h 2 rfl dX4_facesInSun_83 ?_
        refine z_get h 0 3 0 (v := .ref (q 1)) rfl rfl iX4_facesInSun_X4 (by decide) (List.mem_of_getElem? (i := 2) (by decide +kernel)) rfl rfl dX4_facesInSun_84 ?_
        refine z_iload_n h 3 rfl dX4_facesInSun_87 ?_
        refine z_iald h 1 s (f := g 2) rfl rfl rfl (by omega) (by decide) dX4_facesInSun_88 ?_
        refine z_iconst h (nI 1) (by decide +kernel) dX4_facesInSun_89 ?_
        refine z_isub h dX4_facesInSun_90 ?_
        refine z_icmp_ne h 98 dX4_facesInSun_91 (by decide) (fun c_91 => ?_) (fun c_91 => ?_)
        · refine z_iconst h (nI 0) (by decide +kernel) dX4_facesInSun_98 ?_
          refine z_istore h (by decide) (lv' := [(6, .int (nI 0)), (5, .int (nI 0)), (4, .int (nI 1)), (0, .ref (q 0)), (1, .int (nI s)), (2, .int (nI t)), (3, .int hr)]) rfl dX4_facesInSun_99 ?_
          refine z_iload h 1 rfl dX4_facesInSun_101 ?_
          refine z_iload h 0 rfl dX4_facesInSun_103 ?_
          refine z_iadd h dX4_facesInSun_105 ?_
          refine z_top (nI (0 + 0)) (nI_add _ _) ?_
          exact z_iret h hf rfl (by first | rfl | ((try simp only [fcs, fcS, if_neg c_2, if_neg c_13, if_neg c_91]) <;> (try rfl))) rfl dX4_facesInSun_106
        · refine z_iconst h (nI 1) (by decide +kernel) dX4_facesInSun_94 ?_
          refine z_goto h 99 dX4_facesInSun_95 (by decide) ?_
          refine z_istore h (by decide) (lv' := [(6, .int (nI 1)), (5, .int (nI 0)), (4, .int (nI 1)), (0, .ref (q 0)), (1, .int (nI s)), (2, .int (nI t)), (3, .int hr)]) rfl dX4_facesInSun_99 ?_
          refine z_iload h 1 rfl dX4_facesInSun_101 ?_
          refine z_iload h 0 rfl dX4_facesInSun_103 ?_
          refine z_iadd h dX4_facesInSun_105 ?_
          refine z_top (nI (0 + 1)) (nI_add _ _) ?_
          exact z_iret h hf rfl (by first | rfl | ((try simp only [fcs, fcS, if_neg c_2, if_neg c_13, if_pos c_91]) <;> (try rfl))) rfl dX4_facesInSun_106

theorem iX4_dropGone_X4 : ∀ w ∈ u_ws RX4 TX4 7, w ∈ wsX4_dropGone := by decide +kernel
set_option maxHeartbeats 4000000 in
set_option maxRecDepth 100000 in
/-- dropGone -/
theorem c_X4_dropGone {l : Launch} {y : zY} {D : va_G} (q : Nat → Nat) (g : Nat → Nat → Int32) (s : Nat) (hs : s < 8) (hg : okH g) : zM l y D yX4_dropGone wsX4_dropGone 1 21 [.ref (q 0), .int (nI s)] (zSt y q g) (zSt y q (drG g s)) (none) := by
  refine z_start (own := RX4) (cc := cX4_dropGone) (maxL := 6) (ret := none) rfl (by decide +kernel) rfl (Nat.le_of_ble_eq_true rfl) rfl ?_
  intro E hEl hEy hED h hf
  subst hEl hEy hED
  have hkR : 0 ≤ E.2.2.2.2.2.1.cells ∧ 0 ≤ E.2.2.2.2.2.1.slots := ⟨Nat.zero_le _, Nat.zero_le _⟩
  refine z_cast (lv := [(0, .ref (q 0)), (1, .int (nI s))]) (ws := (zSt (zy E) q g)) (st := []) ?_ rfl rfl rfl
  refine z_iconst h (nI 0) (by decide +kernel) dX4_dropGone_0 ?_
  refine z_istore_n h (by decide) (lv' := [(2, .int (nI 0)), (0, .ref (q 0)), (1, .int (nI s))]) rfl dX4_dropGone_1 ?_
  refine z_iconst h (nI 0) (by decide +kernel) dX4_dropGone_2 ?_
  refine z_istore_n h (by decide) (lv' := [(3, .int (nI 0)), (2, .int (nI 0)), (0, .ref (q 0)), (1, .int (nI s))]) rfl dX4_dropGone_3 ?_
  have lp_4 : ∀ (d_4 i : Nat), (zh g s) < i + d_4 → i ≤ (zh g s) → Z E 0 0 [(0, .ref (q 0)), (1, .int (nI s)), (2, .int (nI ((drI (g 6) (g 7) (s * 6) i).1))), (3, .int (nI i))] (zSt (zy E) q (va_up (va_up g 6 ((drI (g 6) (g 7) (s * 6) i).2.1)) 7 ((drI (g 6) (g 7) (s * 6) i).2.2))) 4 [] := by
    intro d_4
    induction d_4 with
    | zero => intro i  q1 q2; omega
    | succ d_4 ih_4 =>
      intro i  q1_4 q2_4 
      have hz := (hg s hs).2
      have hd := drI_le (g 6) (g 7) (s * 6) i
      refine z_iload_n h 3 rfl dX4_dropGone_4 ?_
      refine z_aload_n h 0 rfl dX4_dropGone_5 ?_
      refine z_get h 0 3 0 (v := .ref (q 1)) rfl rfl iX4_dropGone_X4 (by decide) (List.mem_of_getElem? (i := 1) (by decide +kernel)) rfl rfl dX4_dropGone_6 ?_
      refine z_iload_n h 1 rfl dX4_dropGone_9 ?_
      refine z_iald h 1 s (f := g 2) rfl rfl rfl (by omega) (by decide) dX4_dropGone_10 ?_
      refine z_top (nI (zh g s)) (hg s hs).1 ?_
      refine z_icmp_ge h 75 dX4_dropGone_11 (by decide) (fun c_11 => ?_) (fun c_11 => ?_)
      · have k_11 : (zh g s) ≤ i := (nI_leI (by omega) (by omega)).mp c_11
        obtain rfl : i = zh g s := by omega
        refine z_aload_n h 0 rfl dX4_dropGone_75 ?_
        refine z_get h 0 3 0 (v := .ref (q 1)) rfl rfl iX4_dropGone_X4 (by decide) (List.mem_of_getElem? (i := 1) (by decide +kernel)) rfl rfl dX4_dropGone_76 ?_
        refine z_iload_n h 1 rfl dX4_dropGone_79 ?_
        refine z_iload_n h 2 rfl dX4_dropGone_80 ?_
        refine z_iast h 1 s (nI ((drI (g 6) (g 7) (s * 6) (zh g s)).1)) (ws' := zSt (zy E) q (va_up (va_up (va_up g 6 ((drI (g 6) (g 7) (s * 6) (zh g s)).2.1)) 7 ((drI (g 6) (g 7) (s * 6) (zh g s)).2.2)) 2 (upd (g 2) s (nI ((drI (g 6) (g 7) (s * 6) (zh g s)).1))))) rfl rfl rfl rfl (by omega) (by decide) rfl dX4_dropGone_81 ?_
        exact z_vret h hf rfl rfl rfl dX4_dropGone_82
      · have k_11 : ¬ ((zh g s) ≤ i) := fun q => c_11 ((nI_leI (by omega) (by omega)).mpr q)
        refine z_iload_n h 1 rfl dX4_dropGone_14 ?_
        refine z_iload_n h 3 rfl dX4_dropGone_15 ?_
        refine z_callSN h (As := [.int (nI s), .int (nI i)]) (st := []) (ws2 := zSt (zy E) q (va_up (va_up g 6 ((drI (g 6) (g 7) (s * 6) i).2.1)) 7 ((drI (g 6) (g 7) (s * 6) i).2.2))) (B := []) (B' := []) (r := some (.int (nI (s * 6 + i)))) 2 (c_X9_placeOf s i) gX4_dropGone_X9_placeOf_n41 (host := "SnowSites") (by decide +kernel) (List.mem_of_getElem? (i := 5) (by decide +kernel)) (List.mem_of_getElem? (i := 4) (by decide +kernel)) (by decide +kernel) rfl ⟨by decide, by decide⟩ [] rfl (by decide) rfl (Nat.le_of_ble_eq_true rfl) rfl rfl dX4_dropGone_16 ?_ hkR
        refine z_istore h (by decide) (lv' := [(4, .int (nI (s * 6 + i))), (0, .ref (q 0)), (1, .int (nI s)), (2, .int (nI ((drI (g 6) (g 7) (s * 6) i).1))), (3, .int (nI i))]) rfl dX4_dropGone_19 ?_
        refine z_aload_n h 1 rfl dX4_dropGone_21 ?_
        refine z_get h 0 3 5 (v := .ref (q 6)) rfl rfl iX4_dropGone_X4 (by decide) (List.mem_of_getElem? (i := 2) (by decide +kernel)) rfl rfl dX4_dropGone_22 ?_
        refine z_iload h 0 rfl dX4_dropGone_25 ?_
        refine z_iald h 6 (s * 6 + i) (f := (drI (g 6) (g 7) (s * 6) i).2.2) rfl rfl rfl (by omega) (by decide) dX4_dropGone_27 ?_
        refine z_if_le h 69 dX4_dropGone_28 (by decide) (fun c_28 => ?_) (fun c_28 => ?_)
        · have e9 : drI (g 6) (g 7) (s * 6) (i + 1) = drI (g 6) (g 7) (s * 6) i := by simp only [drI]; exact if_pos c_28
          refine z_iinc h 4 (nI (i + 1)) rfl z_i1 (by decide) (lv' := [(3, .int (nI (i + 1))), (4, .int (nI (s * 6 + i))), (0, .ref (q 0)), (1, .int (nI s)), (2, .int (nI ((drI (g 6) (g 7) (s * 6) i).1)))]) rfl dX4_dropGone_69 ?_
          refine z_goto h 4 dX4_dropGone_72 (by decide) ?_
          refine z_sub [2, 3, 4, 0] (lv' := [(0, .ref (q 0)), (1, .int (nI s)), (2, .int (nI ((drI (g 6) (g 7) (s * 6) i).1))), (3, .int (nI (i + 1)))]) rfl ?_
          exact z_cast (ih_4 (i + 1) (by omega) (by omega)) (by rw [e9]) (by rw [e9]) rfl
        · have e9 : drI (g 6) (g 7) (s * 6) (i + 1) = ((drI (g 6) (g 7) (s * 6) i).1 + 1, upd (drI (g 6) (g 7) (s * 6) i).2.1 (s * 6 + (drI (g 6) (g 7) (s * 6) i).1) ((drI (g 6) (g 7) (s * 6) i).2.1 (s * 6 + i)), upd (drI (g 6) (g 7) (s * 6) i).2.2 (s * 6 + (drI (g 6) (g 7) (s * 6) i).1) ((drI (g 6) (g 7) (s * 6) i).2.2 (s * 6 + i))) := by simp only [drI]; exact if_neg c_28
          refine z_iload_n h 2 rfl dX4_dropGone_31 ?_
          refine z_iload_n h 3 rfl dX4_dropGone_32 ?_
          refine z_callSN h (As := [.int (nI s), .int (nI ((drI (g 6) (g 7) (s * 6) i).1))]) (st := []) (ws2 := zSt (zy E) q (va_up (va_up g 6 ((drI (g 6) (g 7) (s * 6) i).2.1)) 7 ((drI (g 6) (g 7) (s * 6) i).2.2))) (B := []) (B' := []) (r := some (.int (nI (s * 6 + ((drI (g 6) (g 7) (s * 6) i).1))))) 2 (c_X9_placeOf s ((drI (g 6) (g 7) (s * 6) i).1)) gX4_dropGone_X9_placeOf_n41 (host := "SnowSites") (by decide +kernel) (List.mem_of_getElem? (i := 5) (by decide +kernel)) (List.mem_of_getElem? (i := 4) (by decide +kernel)) (by decide +kernel) rfl ⟨by decide, by decide⟩ [] rfl (by decide) rfl (Nat.le_of_ble_eq_true rfl) rfl rfl dX4_dropGone_33 ?_ hkR
          refine z_istore h (by decide) (lv' := [(5, .int (nI (s * 6 + ((drI (g 6) (g 7) (s * 6) i).1)))), (4, .int (nI (s * 6 + i))), (0, .ref (q 0)), (1, .int (nI s)), (2, .int (nI ((drI (g 6) (g 7) (s * 6) i).1))), (3, .int (nI i))]) rfl dX4_dropGone_36 ?_
          refine z_aload_n h 2 rfl dX4_dropGone_38 ?_
          refine z_get h 0 3 4 (v := .ref (q 5)) rfl rfl iX4_dropGone_X4 (by decide) (List.mem_of_getElem? (i := 3) (by decide +kernel)) rfl rfl dX4_dropGone_39 ?_
          refine z_iload h 0 rfl dX4_dropGone_42 ?_
          refine z_aload_n h 2 rfl dX4_dropGone_44 ?_
          refine z_get h 0 3 4 (v := .ref (q 5)) rfl rfl iX4_dropGone_X4 (by decide) (List.mem_of_getElem? (i := 3) (by decide +kernel)) rfl rfl dX4_dropGone_45 ?_
          refine z_iload h 1 rfl dX4_dropGone_48 ?_
          refine z_iald h 5 (s * 6 + i) (f := (drI (g 6) (g 7) (s * 6) i).2.1) rfl rfl rfl (by omega) (by decide) dX4_dropGone_50 ?_
          refine z_iast h 5 (s * 6 + ((drI (g 6) (g 7) (s * 6) i).1)) (((drI (g 6) (g 7) (s * 6) i).2.1) (s * 6 + i)) (ws' := zSt (zy E) q (va_up (va_up g 6 (upd ((drI (g 6) (g 7) (s * 6) i).2.1) (s * 6 + ((drI (g 6) (g 7) (s * 6) i).1)) (((drI (g 6) (g 7) (s * 6) i).2.1) (s * 6 + i)))) 7 ((drI (g 6) (g 7) (s * 6) i).2.2))) rfl rfl rfl rfl (by omega) (by decide) rfl dX4_dropGone_51 ?_
          refine z_aload_n h 2 rfl dX4_dropGone_52 ?_
          refine z_get h 0 3 5 (v := .ref (q 6)) rfl rfl iX4_dropGone_X4 (by decide) (List.mem_of_getElem? (i := 2) (by decide +kernel)) rfl rfl dX4_dropGone_53 ?_
          refine z_iload h 0 rfl dX4_dropGone_56 ?_
          refine z_aload_n h 2 rfl dX4_dropGone_58 ?_
          refine z_get h 0 3 5 (v := .ref (q 6)) rfl rfl iX4_dropGone_X4 (by decide) (List.mem_of_getElem? (i := 2) (by decide +kernel)) rfl rfl dX4_dropGone_59 ?_
          refine z_iload h 1 rfl dX4_dropGone_62 ?_
          refine z_iald h 6 (s * 6 + i) (f := (drI (g 6) (g 7) (s * 6) i).2.2) rfl rfl rfl (by omega) (by decide) dX4_dropGone_64 ?_
          refine z_iast h 6 (s * 6 + ((drI (g 6) (g 7) (s * 6) i).1)) (((drI (g 6) (g 7) (s * 6) i).2.2) (s * 6 + i)) (ws' := zSt (zy E) q (va_up (va_up g 6 (upd ((drI (g 6) (g 7) (s * 6) i).2.1) (s * 6 + ((drI (g 6) (g 7) (s * 6) i).1)) (((drI (g 6) (g 7) (s * 6) i).2.1) (s * 6 + i)))) 7 (upd ((drI (g 6) (g 7) (s * 6) i).2.2) (s * 6 + ((drI (g 6) (g 7) (s * 6) i).1)) (((drI (g 6) (g 7) (s * 6) i).2.2) (s * 6 + i))))) rfl rfl rfl rfl (by omega) (by decide) rfl dX4_dropGone_65 ?_
          refine z_iinc h 4 (nI ((drI (g 6) (g 7) (s * 6) i).1 + 1)) rfl z_i1 (by decide) (lv' := [(2, .int (nI ((drI (g 6) (g 7) (s * 6) i).1 + 1))), (5, .int (nI (s * 6 + ((drI (g 6) (g 7) (s * 6) i).1)))), (4, .int (nI (s * 6 + i))), (0, .ref (q 0)), (1, .int (nI s)), (3, .int (nI i))]) rfl dX4_dropGone_66 ?_
          refine z_iinc h 5 (nI (i + 1)) rfl z_i1 (by decide) (lv' := [(3, .int (nI (i + 1))), (2, .int (nI ((drI (g 6) (g 7) (s * 6) i).1 + 1))), (5, .int (nI (s * 6 + ((drI (g 6) (g 7) (s * 6) i).1)))), (4, .int (nI (s * 6 + i))), (0, .ref (q 0)), (1, .int (nI s))]) rfl dX4_dropGone_69 ?_
          refine z_goto h 4 dX4_dropGone_72 (by decide) ?_
          refine z_sub [4, 5, 1, 0] (lv' := [(0, .ref (q 0)), (1, .int (nI s)), (2, .int (nI ((drI (g 6) (g 7) (s * 6) i).1 + 1))), (3, .int (nI (i + 1)))]) rfl ?_
          exact z_cast (ih_4 (i + 1) (by omega) (by omega)) (by rw [e9]) (by rw [e9]) rfl
  refine z_sub [2, 3, 1, 0] (lv' := [(0, .ref (q 0)), (1, .int (nI s)), (2, .int (nI 0)), (3, .int (nI 0))]) rfl ?_
  exact z_cast (lp_4 ((zh g s) + 1) 0 (by omega) (by omega)) rfl rfl rfl

theorem iX4_takeLosses_X4 : ∀ w ∈ u_ws RX4 TX4 7, w ∈ wsX4_takeLosses := by decide +kernel
set_option maxHeartbeats 4000000 in
set_option maxRecDepth 100000 in
/-- takeLosses -/
theorem c_X4_takeLosses {l : Launch} {y : zY} {D : va_G} (q : Nat → Nat) (g : Nat → Nat → Int32) (s : Nat) (hs : s < 8) (hg : okH g) : zM l y D yX4_takeLosses wsX4_takeLosses 2 46 [.ref (q 0), .int (nI s)] (zSt y q g) (zSt y q (tlG g s)) (some (.int (vSum (g 8) (s * 6) (zh g s)))) := by
  refine z_start (own := RX4) (cc := cX4_takeLosses) (maxL := 5) (ret := (some .int)) rfl (by decide +kernel) rfl (Nat.le_of_ble_eq_true rfl) rfl ?_
  intro E hEl hEy hED h hf
  subst hEl hEy hED
  have hkR : 0 ≤ E.2.2.2.2.2.1.cells ∧ 0 ≤ E.2.2.2.2.2.1.slots := ⟨Nat.zero_le _, Nat.zero_le _⟩
  refine z_cast (lv := [(0, .ref (q 0)), (1, .int (nI s))]) (ws := (zSt (zy E) q g)) (st := []) ?_ rfl rfl rfl
  refine z_iconst h (nI 0) (by decide +kernel) dX4_takeLosses_0 ?_
  refine z_istore_n h (by decide) (lv' := [(2, .int (nI 0)), (0, .ref (q 0)), (1, .int (nI s))]) rfl dX4_takeLosses_1 ?_
  refine z_iconst h (nI 0) (by decide +kernel) dX4_takeLosses_2 ?_
  refine z_istore_n h (by decide) (lv' := [(3, .int (nI 0)), (2, .int (nI 0)), (0, .ref (q 0)), (1, .int (nI s))]) rfl dX4_takeLosses_3 ?_
  have lp_4 : ∀ (d_4 i : Nat), (zh g s) < i + d_4 → i ≤ (zh g s) → Z E 0 0 [(0, .ref (q 0)), (1, .int (nI s)), (2, .int (vSum (g 8) (s * 6) i)), (3, .int (nI i))] (zSt (zy E) q (va_up g 7 (tlV (g 7) (g 8) (s * 6) i))) 4 [] := by
    intro d_4
    induction d_4 with
    | zero => intro i  q1 q2; omega
    | succ d_4 ih_4 =>
      intro i  q1_4 q2_4 
      have hz := (hg s hs).2
      refine z_iload_n h 3 rfl dX4_takeLosses_4 ?_
      refine z_aload_n h 0 rfl dX4_takeLosses_5 ?_
      refine z_get h 0 3 0 (v := .ref (q 1)) rfl rfl iX4_takeLosses_X4 (by decide) (List.mem_of_getElem? (i := 1) (by decide +kernel)) rfl rfl dX4_takeLosses_6 ?_
      refine z_iload_n h 1 rfl dX4_takeLosses_9 ?_
      refine z_iald h 1 s (f := g 2) rfl rfl rfl (by omega) (by decide) dX4_takeLosses_10 ?_
      refine z_top (nI (zh g s)) (hg s hs).1 ?_
      refine z_icmp_ge h 54 dX4_takeLosses_11 (by decide) (fun c_11 => ?_) (fun c_11 => ?_)
      · have k_11 : (zh g s) ≤ i := (nI_leI (by omega) (by omega)).mp c_11
        obtain rfl : i = zh g s := by omega
        refine z_aload_n h 0 rfl dX4_takeLosses_54 ?_
        refine z_get h 0 3 3 (v := .ref (q 4)) rfl rfl iX4_takeLosses_X4 (by decide) (List.mem_of_getElem? (i := 4) (by decide +kernel)) rfl rfl dX4_takeLosses_55 ?_
        refine z_iload_n h 1 rfl dX4_takeLosses_58 ?_
        refine z_dup2 h dX4_takeLosses_59 rfl rfl ?_
        refine z_iald h 4 s (f := g 5) rfl rfl rfl (by omega) (by decide) dX4_takeLosses_60 ?_
        refine z_iload_n h 2 rfl dX4_takeLosses_61 ?_
        refine z_iadd h dX4_takeLosses_62 ?_
        refine z_iast h 4 s (((g 5) s) + (vSum (g 8) (s * 6) (zh g s))) (ws' := zSt (zy E) q (va_up (va_up g 7 (tlV (g 7) (g 8) (s * 6) (zh g s))) 5 (upd (g 5) s (((g 5) s) + (vSum (g 8) (s * 6) (zh g s)))))) rfl rfl rfl rfl (by omega) (by decide) rfl dX4_takeLosses_63 ?_
        refine z_aload_n h 0 rfl dX4_takeLosses_64 ?_
        refine z_iload_n h 1 rfl dX4_takeLosses_65 ?_
        refine z_callV h (As := [.int (nI s)]) (st := []) (ws2 := zSt (zy E) q (drG (va_up (va_up g 7 (tlV (g 7) (g 8) (s * 6) (zh g s))) 5 (upd (g 5) s (((g 5) s) + (vSum (g 8) (s * 6) (zh g s))))) s)) (B := zSt (zy E) q (va_up (va_up g 7 (tlV (g 7) (g 8) (s * 6) (zh g s))) 5 (upd (g 5) s (((g 5) s) + (vSum (g 8) (s * 6) (zh g s)))))) (B' := zSt (zy E) q (drG (va_up (va_up g 7 (tlV (g 7) (g 8) (s * 6) (zh g s))) 5 (upd (g 5) s (((g 5) s) + (vSum (g 8) (s * 6) (zh g s))))) s)) (r := none) 1 (c_X4_dropGone q (va_up (va_up g 7 (tlV (g 7) (g 8) (s * 6) (zh g s))) 5 (upd (g 5) s (((g 5) s) + (vSum (g 8) (s * 6) (zh g s))))) s (by omega) hg) gX4_takeLosses_X4_dropGone (q0 := 0) (ci := 3) (by decide +kernel) rfl rfl rfl ⟨by decide, by decide⟩ [0, 1, 2, 3, 4, 5, 6, 7] rfl (by decide) rfl (Nat.le_of_ble_eq_true rfl) rfl rfl dX4_takeLosses_66 ?_ hkR
        refine z_iload_n h 2 rfl dX4_takeLosses_69 ?_
        exact z_iret h hf rfl rfl rfl dX4_takeLosses_70
      · have k_11 : ¬ ((zh g s) ≤ i) := fun q => c_11 ((nI_leI (by omega) (by omega)).mpr q)
        refine z_iload_n h 1 rfl dX4_takeLosses_14 ?_
        refine z_iload_n h 3 rfl dX4_takeLosses_15 ?_
        refine z_callSN h (As := [.int (nI s), .int (nI i)]) (st := []) (ws2 := zSt (zy E) q (va_up g 7 (tlV (g 7) (g 8) (s * 6) i))) (B := []) (B' := []) (r := some (.int (nI (s * 6 + i)))) 2 (c_X9_placeOf s i) gX4_takeLosses_X9_placeOf_n41 (host := "SnowSites") (by decide +kernel) (List.mem_of_getElem? (i := 6) (by decide +kernel)) (List.mem_of_getElem? (i := 5) (by decide +kernel)) (by decide +kernel) rfl ⟨by decide, by decide⟩ [] rfl (by decide) rfl (Nat.le_of_ble_eq_true rfl) rfl rfl dX4_takeLosses_16 ?_ hkR
        refine z_istore h (by decide) (lv' := [(4, .int (nI (s * 6 + i))), (0, .ref (q 0)), (1, .int (nI s)), (2, .int (vSum (g 8) (s * 6) i)), (3, .int (nI i))]) rfl dX4_takeLosses_19 ?_
        refine z_aload_n h 1 rfl dX4_takeLosses_21 ?_
        refine z_get h 0 3 5 (v := .ref (q 6)) rfl rfl iX4_takeLosses_X4 (by decide) (List.mem_of_getElem? (i := 2) (by decide +kernel)) rfl rfl dX4_takeLosses_22 ?_
        refine z_iload h 0 rfl dX4_takeLosses_25 ?_
        refine z_dup2 h dX4_takeLosses_27 rfl rfl ?_
        refine z_iald h 6 (s * 6 + i) (f := tlV (g 7) (g 8) (s * 6) i) rfl rfl rfl (by omega) (by decide) dX4_takeLosses_28 ?_
        refine z_aload_n h 1 rfl dX4_takeLosses_29 ?_
        refine z_get h 0 3 6 (v := .ref (q 7)) rfl rfl iX4_takeLosses_X4 (by decide) (List.mem_of_getElem? (i := 3) (by decide +kernel)) rfl rfl dX4_takeLosses_30 ?_
        refine z_iload h 0 rfl dX4_takeLosses_33 ?_
        refine z_iald h 7 (s * 6 + i) (f := g 8) rfl rfl rfl (by omega) (by decide) dX4_takeLosses_35 ?_
        refine z_isub h dX4_takeLosses_36 ?_
        refine z_iast h 6 (s * 6 + i) (((tlV (g 7) (g 8) (s * 6) i) (s * 6 + i)) - ((g 8) (s * 6 + i))) (ws' := zSt (zy E) q (va_up g 7 (upd (tlV (g 7) (g 8) (s * 6) i) (s * 6 + i) (((tlV (g 7) (g 8) (s * 6) i) (s * 6 + i)) - ((g 8) (s * 6 + i)))))) rfl rfl rfl rfl (by omega) (by decide) rfl dX4_takeLosses_37 ?_
        refine z_iload_n h 3 rfl dX4_takeLosses_38 ?_
        refine z_aload_n h 1 rfl dX4_takeLosses_39 ?_
        refine z_get h 0 3 6 (v := .ref (q 7)) rfl rfl iX4_takeLosses_X4 (by decide) (List.mem_of_getElem? (i := 3) (by decide +kernel)) rfl rfl dX4_takeLosses_40 ?_
        refine z_iload h 0 rfl dX4_takeLosses_43 ?_
        refine z_iald h 7 (s * 6 + i) (f := g 8) rfl rfl rfl (by omega) (by decide) dX4_takeLosses_45 ?_
        refine z_iadd h dX4_takeLosses_46 ?_
        refine z_istore_n h (by decide) (lv' := [(2, .int ((vSum (g 8) (s * 6) i) + ((g 8) (s * 6 + i)))), (4, .int (nI (s * 6 + i))), (0, .ref (q 0)), (1, .int (nI s)), (3, .int (nI i))]) rfl dX4_takeLosses_47 ?_
        refine z_iinc h 4 (nI (i + 1)) rfl z_i1 (by decide) (lv' := [(3, .int (nI (i + 1))), (2, .int ((vSum (g 8) (s * 6) i) + ((g 8) (s * 6 + i)))), (4, .int (nI (s * 6 + i))), (0, .ref (q 0)), (1, .int (nI s))]) rfl dX4_takeLosses_48 ?_
        refine z_goto h 4 dX4_takeLosses_51 (by decide) ?_
        refine z_sub [3, 4, 1, 0] (lv' := [(0, .ref (q 0)), (1, .int (nI s)), (2, .int ((vSum (g 8) (s * 6) i) + ((g 8) (s * 6 + i)))), (3, .int (nI (i + 1)))]) rfl ?_
        exact z_cast (ih_4 (i + 1) (by omega) (by omega)) rfl rfl rfl
  refine z_sub [2, 3, 1, 0] (lv' := [(0, .ref (q 0)), (1, .int (nI s)), (2, .int (nI 0)), (3, .int (nI 0))]) rfl ?_
  exact z_cast (lp_4 ((zh g s) + 1) 0 (by omega) (by omega)) rfl rfl rfl

theorem iX4_add_X4 : ∀ w ∈ u_ws RX4 TX4 7, w ∈ wsX4_add := by decide +kernel
set_option maxHeartbeats 4000000 in
set_option maxRecDepth 100000 in
/-- add -/
theorem c_X4_add {l : Launch} {y : zY} {D : va_G} (q : Nat → Nat) (g : Nat → Nat → Int32) (s : Nat) (k : Int32) (hs : s < 8) (hlt : zh g s < 6) (hg : okH g) : zM l y D yX4_add wsX4_add 1 21 [.ref (q 0), .int (nI s), .int k] (zSt y q g) (zSt y q (adG g s k)) (none) := by
  refine z_start (own := RX4) (cc := cX4_add) (maxL := 4) (ret := none) rfl (by decide +kernel) rfl (Nat.le_of_ble_eq_true rfl) rfl ?_
  intro E hEl hEy hED h hf
  subst hEl hEy hED
  have hkR : 0 ≤ E.2.2.2.2.2.1.cells ∧ 0 ≤ E.2.2.2.2.2.1.slots := ⟨Nat.zero_le _, Nat.zero_le _⟩
  refine z_cast (lv := [(0, .ref (q 0)), (1, .int (nI s)), (2, .int k)]) (ws := (zSt (zy E) q g)) (st := []) ?_ rfl rfl rfl
  refine z_iload_n h 1 rfl dX4_add_0 ?_
  refine z_aload_n h 0 rfl dX4_add_1 ?_
  refine z_get h 0 3 0 (v := .ref (q 1)) rfl rfl iX4_add_X4 (by decide) (List.mem_of_getElem? (i := 1) (by decide +kernel)) rfl rfl dX4_add_2 ?_
  refine z_iload_n h 1 rfl dX4_add_5 ?_
  refine z_iald h 1 s (f := g 2) rfl rfl rfl (by omega) (by decide) dX4_add_6 ?_
  refine z_top (nI (zh g s)) (hg s hs).1 ?_
  refine z_callSN h (As := [.int (nI s), .int (nI (zh g s))]) (st := []) (ws2 := zSt (zy E) q g) (B := []) (B' := []) (r := some (.int (nI (s * 6 + (zh g s))))) 2 (c_X9_placeOf s (zh g s)) gX4_add_X9_placeOf_n41 (host := "SnowSites") (by decide +kernel) (List.mem_of_getElem? (i := 5) (by decide +kernel)) (List.mem_of_getElem? (i := 4) (by decide +kernel)) (by decide +kernel) rfl ⟨by decide, by decide⟩ [] rfl (by decide) rfl (Nat.le_of_ble_eq_true rfl) rfl rfl dX4_add_7 ?_ hkR
  refine z_istore_n h (by decide) (lv' := [(3, .int (nI (s * 6 + (zh g s)))), (0, .ref (q 0)), (1, .int (nI s)), (2, .int k)]) rfl dX4_add_10 ?_
  refine z_aload_n h 1 rfl dX4_add_11 ?_
  refine z_get h 0 3 4 (v := .ref (q 5)) rfl rfl iX4_add_X4 (by decide) (List.mem_of_getElem? (i := 2) (by decide +kernel)) rfl rfl dX4_add_12 ?_
  refine z_iload_n h 0 rfl dX4_add_15 ?_
  refine z_iload_n h 3 rfl dX4_add_16 ?_
  refine z_iast h 5 (s * 6 + (zh g s)) k (ws' := zSt (zy E) q (va_up g 6 (upd (g 6) (s * 6 + (zh g s)) k))) rfl rfl rfl rfl (by omega) (by decide) rfl dX4_add_17 ?_
  refine z_aload_n h 1 rfl dX4_add_18 ?_
  refine z_get h 0 3 5 (v := .ref (q 6)) rfl rfl iX4_add_X4 (by decide) (List.mem_of_getElem? (i := 3) (by decide +kernel)) rfl rfl dX4_add_19 ?_
  refine z_iload_n h 0 rfl dX4_add_22 ?_
  refine z_bipush h (nI 100) (by decide +kernel) dX4_add_23 ?_
  refine z_iast h 6 (s * 6 + (zh g s)) (nI 100) (ws' := zSt (zy E) q (va_up (va_up g 6 (upd (g 6) (s * 6 + (zh g s)) k)) 7 (upd (g 7) (s * 6 + (zh g s)) (nI 100)))) rfl rfl rfl rfl (by omega) (by decide) rfl dX4_add_25 ?_
  refine z_aload_n h 1 rfl dX4_add_26 ?_
  refine z_get h 0 3 0 (v := .ref (q 1)) rfl rfl iX4_add_X4 (by decide) (List.mem_of_getElem? (i := 1) (by decide +kernel)) rfl rfl dX4_add_27 ?_
  refine z_iload_n h 2 rfl dX4_add_30 ?_
  refine z_dup2 h dX4_add_31 rfl rfl ?_
  refine z_iald h 1 s (f := g 2) rfl rfl rfl (by omega) (by decide) dX4_add_32 ?_
  refine z_top (nI (zh g s)) (hg s hs).1 ?_
  refine z_iconst h (nI 1) (by decide +kernel) dX4_add_33 ?_
  refine z_iadd h dX4_add_34 ?_
  refine z_top (nI ((zh g s) + 1)) (nI_add _ _) ?_
  refine z_iast h 1 s (nI ((zh g s) + 1)) (ws' := zSt (zy E) q (va_up (va_up (va_up g 6 (upd (g 6) (s * 6 + (zh g s)) k)) 7 (upd (g 7) (s * 6 + (zh g s)) (nI 100))) 2 (upd (g 2) s (nI ((zh g s) + 1))))) rfl rfl rfl rfl (by omega) (by decide) rfl dX4_add_35 ?_
  exact z_vret h hf rfl rfl rfl dX4_add_36

theorem iX4_cut_X4 : ∀ w ∈ u_ws RX4 TX4 7, w ∈ wsX4_cut := by decide +kernel
set_option maxHeartbeats 4000000 in
set_option maxRecDepth 100000 in
/-- cut -/
theorem c_X4_cut {l : Launch} {y : zY} {D : va_G} (q : Nat → Nat) (g : Nat → Nat → Int32) (s t : Nat) (u : Int32) (hs : s < 8) (ht : t < 6) (hg : okH g) : zM l y D yX4_cut wsX4_cut 2 46 [.ref (q 0), .int (nI s), .int (nI t), .int u] (zSt y q g) (zSt y q (ctG g s t u)) (some (.int (g 7 (s * 6 + t) - u))) := by
  refine z_start (own := RX4) (cc := cX4_cut) (maxL := 6) (ret := (some .int)) rfl (by decide +kernel) rfl (Nat.le_of_ble_eq_true rfl) rfl ?_
  intro E hEl hEy hED h hf
  subst hEl hEy hED
  have hkR : 0 ≤ E.2.2.2.2.2.1.cells ∧ 0 ≤ E.2.2.2.2.2.1.slots := ⟨Nat.zero_le _, Nat.zero_le _⟩
  refine z_cast (lv := [(0, .ref (q 0)), (1, .int (nI s)), (2, .int (nI t)), (3, .int u)]) (ws := (zSt (zy E) q g)) (st := []) ?_ rfl rfl rfl
  refine z_iload_n h 1 rfl dX4_cut_0 ?_
  refine z_iload_n h 2 rfl dX4_cut_1 ?_
  refine z_callSN h (As := [.int (nI s), .int (nI t)]) (st := []) (ws2 := zSt (zy E) q g) (B := []) (B' := []) (r := some (.int (nI (s * 6 + t)))) 2 (c_X9_placeOf s t) gX4_cut_X9_placeOf_n41 (host := "SnowSites") (by decide +kernel) (List.mem_of_getElem? (i := 4) (by decide +kernel)) (List.mem_of_getElem? (i := 3) (by decide +kernel)) (by decide +kernel) rfl ⟨by decide, by decide⟩ [] rfl (by decide) rfl (Nat.le_of_ble_eq_true rfl) rfl rfl dX4_cut_2 ?_ hkR
  refine z_istore h (by decide) (lv' := [(4, .int (nI (s * 6 + t))), (0, .ref (q 0)), (1, .int (nI s)), (2, .int (nI t)), (3, .int u)]) rfl dX4_cut_5 ?_
  refine z_aload_n h 1 rfl dX4_cut_7 ?_
  refine z_get h 0 3 5 (v := .ref (q 6)) rfl rfl iX4_cut_X4 (by decide) (List.mem_of_getElem? (i := 1) (by decide +kernel)) rfl rfl dX4_cut_8 ?_
  refine z_iload h 0 rfl dX4_cut_11 ?_
  refine z_iald h 6 (s * 6 + t) (f := g 7) rfl rfl rfl (by omega) (by decide) dX4_cut_13 ?_
  refine z_iload_n h 4 rfl dX4_cut_14 ?_
  refine z_isub h dX4_cut_15 ?_
  refine z_istore h (by decide) (lv' := [(5, .int (((g 7) (s * 6 + t)) - u)), (4, .int (nI (s * 6 + t))), (0, .ref (q 0)), (1, .int (nI s)), (2, .int (nI t)), (3, .int u)]) rfl dX4_cut_16 ?_
  refine z_aload_n h 2 rfl dX4_cut_18 ?_
  refine z_get h 0 3 5 (v := .ref (q 6)) rfl rfl iX4_cut_X4 (by decide) (List.mem_of_getElem? (i := 1) (by decide +kernel)) rfl rfl dX4_cut_19 ?_
  refine z_iload h 1 rfl dX4_cut_22 ?_
  refine z_iload h 0 rfl dX4_cut_24 ?_
  refine z_iast h 6 (s * 6 + t) (((g 7) (s * 6 + t)) - u) (ws' := zSt (zy E) q (va_up g 7 (upd (g 7) (s * 6 + t) (((g 7) (s * 6 + t)) - u)))) rfl rfl rfl rfl (by omega) (by decide) rfl dX4_cut_26 ?_
  refine z_aload_n h 2 rfl dX4_cut_27 ?_
  refine z_get h 0 3 2 (v := .ref (q 3)) rfl rfl iX4_cut_X4 (by decide) (List.mem_of_getElem? (i := 2) (by decide +kernel)) rfl rfl dX4_cut_28 ?_
  refine z_iload_n h 3 rfl dX4_cut_31 ?_
  refine z_dup2 h dX4_cut_32 rfl rfl ?_
  refine z_iald h 3 s (f := g 4) rfl rfl rfl (by omega) (by decide) dX4_cut_33 ?_
  refine z_iload_n h 5 rfl dX4_cut_34 ?_
  refine z_iadd h dX4_cut_35 ?_
  refine z_iast h 3 s (((g 4) s) + u) (ws' := zSt (zy E) q (va_up (va_up g 7 (upd (g 7) (s * 6 + t) (((g 7) (s * 6 + t)) - u))) 4 (upd (g 4) s (((g 4) s) + u)))) rfl rfl rfl rfl (by omega) (by decide) rfl dX4_cut_36 ?_
  refine z_aload_n h 2 rfl dX4_cut_37 ?_
  refine z_iload_n h 3 rfl dX4_cut_38 ?_
  refine z_callV h (As := [.int (nI s)]) (st := []) (ws2 := zSt (zy E) q (drG (va_up (va_up g 7 (upd (g 7) (s * 6 + t) (((g 7) (s * 6 + t)) - u))) 4 (upd (g 4) s (((g 4) s) + u))) s)) (B := zSt (zy E) q (va_up (va_up g 7 (upd (g 7) (s * 6 + t) (((g 7) (s * 6 + t)) - u))) 4 (upd (g 4) s (((g 4) s) + u)))) (B' := zSt (zy E) q (drG (va_up (va_up g 7 (upd (g 7) (s * 6 + t) (((g 7) (s * 6 + t)) - u))) 4 (upd (g 4) s (((g 4) s) + u))) s)) (r := none) 1 (c_X4_dropGone q (va_up (va_up g 7 (upd (g 7) (s * 6 + t) (((g 7) (s * 6 + t)) - u))) 4 (upd (g 4) s (((g 4) s) + u))) s (by omega) hg) gX4_cut_X4_dropGone (q0 := 0) (ci := 3) (by decide +kernel) rfl rfl rfl ⟨by decide, by decide⟩ [0, 1, 2, 3, 4, 5, 6, 7] rfl (by decide) rfl (Nat.le_of_ble_eq_true rfl) rfl rfl dX4_cut_39 ?_ hkR
  refine z_iload h 0 rfl dX4_cut_42 ?_
  exact z_iret h hf rfl rfl rfl dX4_cut_44

theorem iX4_melt_X4 : ∀ w ∈ u_ws RX4 TX4 7, w ∈ wsX4_melt := by decide +kernel
set_option maxHeartbeats 4000000 in
set_option maxRecDepth 100000 in
/-- melt -/
theorem c_X4_melt {l : Launch} {y : zY} {D : va_G} (q : Nat → Nat) (g : Nat → Nat → Int32) (hr : Int32) (hg : okH g) : zM l y D yX4_melt wsX4_melt 3 70 [.ref (q 0), .int hr] (zSt y q g) (zSt y q (mlG g hr)) (some (.int (mlS g hr))) := by
  refine z_start (own := RX4) (cc := cX4_melt) (maxL := 6) (ret := (some .int)) rfl (by decide +kernel) rfl (Nat.le_of_ble_eq_true rfl) rfl ?_
  intro E hEl hEy hED h hf
  subst hEl hEy hED
  have hkR : 0 ≤ E.2.2.2.2.2.1.cells ∧ 0 ≤ E.2.2.2.2.2.1.slots := ⟨Nat.zero_le _, Nat.zero_le _⟩
  refine z_cast (lv := [(0, .ref (q 0)), (1, .int hr)]) (ws := (zSt (zy E) q g)) (st := []) ?_ rfl rfl rfl
  refine z_iconst h (nI 0) (by decide +kernel) dX4_melt_0 ?_
  refine z_istore_n h (by decide) (lv' := [(2, .int (nI 0)), (0, .ref (q 0)), (1, .int hr)]) rfl dX4_melt_1 ?_
  have lp_2 : ∀ (d_2 s : Nat), 8 < s + d_2 → s ≤ 8 → Z E 0 0 [(0, .ref (q 0)), (1, .int hr), (2, .int (nI s))] (zSt (zy E) q (va_up g 8 (mlO g hr s))) 2 [] := by
    intro d_2
    induction d_2 with
    | zero => intro s  q1 q2; omega
    | succ d_2 ih_2 =>
      intro s  q1_2 q2_2 
      refine z_iload_n h 2 rfl dX4_melt_2 ?_
      refine z_bipush h (nI 8) (by decide +kernel) dX4_melt_3 ?_
      refine z_icmp_ge h 78 dX4_melt_5 (by decide) (fun c_5 => ?_) (fun c_5 => ?_)
      · have k_5 : 8 ≤ s := (nI_leI (by omega) (by omega)).mp c_5
        obtain rfl : s = 8 := by omega
        refine z_iconst h (nI 0) (by decide +kernel) dX4_melt_78 ?_
        refine z_istore_n h (by decide) (lv' := [(2, .int (nI 0)), (0, .ref (q 0)), (1, .int hr)]) rfl dX4_melt_79 ?_
        refine z_iconst h (nI 0) (by decide +kernel) dX4_melt_80 ?_
        refine z_istore_n h (by decide) (lv' := [(3, .int (nI 0)), (2, .int (nI 0)), (0, .ref (q 0)), (1, .int hr)]) rfl dX4_melt_81 ?_
        have lp_82 : ∀ (d_82 s : Nat), 8 < s + d_82 → s ≤ 8 → Z E 0 0 [(0, .ref (q 0)), (1, .int hr), (2, .int (mtS (va_up g 8 (mlO g hr 8)) s)), (3, .int (nI s))] (zSt (zy E) q (mtG (va_up g 8 (mlO g hr 8)) s)) 82 [] := by
          intro d_82
          induction d_82 with
          | zero => intro s  q1 q2; omega
          | succ d_82 ih_82 =>
            intro s  q1_82 q2_82 
            refine z_iload_n h 3 rfl dX4_melt_82 ?_
            refine z_bipush h (nI 8) (by decide +kernel) dX4_melt_83 ?_
            refine z_icmp_ge h 102 dX4_melt_85 (by decide) (fun c_85 => ?_) (fun c_85 => ?_)
            · have k_85 : 8 ≤ s := (nI_leI (by omega) (by omega)).mp c_85
              obtain rfl : s = 8 := by omega
              refine z_iload_n h 2 rfl dX4_melt_102 ?_
              exact z_iret h hf rfl rfl (zSt_ml _ _ _ _) dX4_melt_103
            · have k_85 : ¬ (8 ≤ s) := fun q => c_85 ((nI_leI (by omega) (by omega)).mpr q)
              refine z_iload_n h 2 rfl dX4_melt_88 ?_
              refine z_aload_n h 0 rfl dX4_melt_89 ?_
              refine z_iload_n h 3 rfl dX4_melt_90 ?_
              refine z_callV h (As := [.int (nI s)]) (st := [.int (mtS (va_up g 8 (mlO g hr 8)) s)]) (ws2 := zSt (zy E) q (tlG (mtG (va_up g 8 (mlO g hr 8)) s) s)) (B := zSt (zy E) q (mtG (va_up g 8 (mlO g hr 8)) s)) (B' := zSt (zy E) q (tlG (mtG (va_up g 8 (mlO g hr 8)) s) s)) (r := some (.int (vSum ((mtG (va_up g 8 (mlO g hr 8)) s) 8) (s * 6) (zh (mtG (va_up g 8 (mlO g hr 8)) s) s)))) 1 (c_X4_takeLosses q (mtG (va_up g 8 (mlO g hr 8)) s) s (by omega) (okH_mt (g := va_up g 8 (mlO g hr 8)) hg s (by omega))) gX4_melt_X4_takeLosses (q0 := 0) (ci := 3) (by decide +kernel) rfl rfl rfl ⟨by decide, by decide⟩ [0, 1, 2, 3, 4, 5, 6, 7] rfl (by decide) rfl (Nat.le_of_ble_eq_true rfl) rfl rfl dX4_melt_91 ?_ hkR
              refine z_iadd h dX4_melt_94 ?_
              refine z_istore_n h (by decide) (lv' := [(2, .int ((mtS (va_up g 8 (mlO g hr 8)) s) + (vSum ((mtG (va_up g 8 (mlO g hr 8)) s) 8) (s * 6) (zh (mtG (va_up g 8 (mlO g hr 8)) s) s)))), (0, .ref (q 0)), (1, .int hr), (3, .int (nI s))]) rfl dX4_melt_95 ?_
              refine z_iinc h 3 (nI (s + 1)) rfl z_i1 (by decide) (lv' := [(3, .int (nI (s + 1))), (2, .int ((mtS (va_up g 8 (mlO g hr 8)) s) + (vSum ((mtG (va_up g 8 (mlO g hr 8)) s) 8) (s * 6) (zh (mtG (va_up g 8 (mlO g hr 8)) s) s)))), (0, .ref (q 0)), (1, .int hr)]) rfl dX4_melt_96 ?_
              refine z_goto h 82 dX4_melt_99 (by decide) ?_
              refine z_sub [2, 3, 1, 0] (lv' := [(0, .ref (q 0)), (1, .int hr), (2, .int ((mtS (va_up g 8 (mlO g hr 8)) s) + (vSum ((mtG (va_up g 8 (mlO g hr 8)) s) 8) (s * 6) (zh (mtG (va_up g 8 (mlO g hr 8)) s) s)))), (3, .int (nI (s + 1)))]) rfl ?_
              exact z_cast (ih_82 (s + 1) (by omega) (by omega)) rfl rfl rfl
        refine z_sub [2, 3, 1, 0] (lv' := [(0, .ref (q 0)), (1, .int hr), (2, .int (nI 0)), (3, .int (nI 0))]) rfl ?_
        exact z_cast (lp_82 (8 + 1) 0 (by omega) (by omega)) rfl rfl rfl
      · have k_5 : ¬ (8 ≤ s) := fun q => c_5 ((nI_leI (by omega) (by omega)).mpr q)
        refine z_iconst h (nI 0) (by decide +kernel) dX4_melt_8 ?_
        refine z_istore_n h (by decide) (lv' := [(3, .int (nI 0)), (0, .ref (q 0)), (1, .int hr), (2, .int (nI s))]) rfl dX4_melt_9 ?_
        have lp_10 : ∀ (d_10 t : Nat), (zh g s) < t + d_10 → t ≤ (zh g s) → Z E 0 0 [(0, .ref (q 0)), (1, .int hr), (2, .int (nI s)), (3, .int (nI t))] (zSt (zy E) q (va_up g 8 (mlI g hr s (mlO g hr s) t))) 10 [] := by
          intro d_10
          induction d_10 with
          | zero => intro t  q1 q2; omega
          | succ d_10 ih_10 =>
            intro t  q1_10 q2_10 
            have hz := (hg s (by omega)).2
            refine z_iload_n h 3 rfl dX4_melt_10 ?_
            refine z_aload_n h 0 rfl dX4_melt_11 ?_
            refine z_get h 0 3 0 (v := .ref (q 1)) rfl rfl iX4_melt_X4 (by decide) (List.mem_of_getElem? (i := 1) (by decide +kernel)) rfl rfl dX4_melt_12 ?_
            refine z_iload_n h 2 rfl dX4_melt_15 ?_
            refine z_iald h 1 s (f := g 2) rfl rfl rfl (by omega) (by decide) dX4_melt_16 ?_
            refine z_top (nI (zh g s)) (hg s (by omega)).1 ?_
            refine z_icmp_ge h 72 dX4_melt_17 (by decide) (fun c_17 => ?_) (fun c_17 => ?_)
            · have k_17 : (zh g s) ≤ t := (nI_leI (by omega) (by omega)).mp c_17
              obtain rfl : t = zh g s := by omega
              refine z_iinc h 2 (nI (s + 1)) rfl z_i1 (by decide) (lv' := [(2, .int (nI (s + 1))), (0, .ref (q 0)), (1, .int hr), (3, .int (nI (zh g s)))]) rfl dX4_melt_72 ?_
              refine z_goto h 2 dX4_melt_75 (by decide) ?_
              refine z_sub [1, 2, 0] (lv' := [(0, .ref (q 0)), (1, .int hr), (2, .int (nI (s + 1)))]) rfl ?_
              exact z_cast (ih_2 (s + 1) (by omega) (by omega)) rfl rfl rfl
            · have k_17 : ¬ ((zh g s) ≤ t) := fun q => c_17 ((nI_leI (by omega) (by omega)).mpr q)
              refine z_iload_n h 2 rfl dX4_melt_20 ?_
              refine z_iload_n h 3 rfl dX4_melt_21 ?_
              refine z_callSN h (As := [.int (nI s), .int (nI t)]) (st := []) (ws2 := zSt (zy E) q (va_up g 8 (mlI g hr s (mlO g hr s) t))) (B := []) (B' := []) (r := some (.int (nI (s * 6 + t)))) 2 (c_X9_placeOf s t) gX4_melt_X9_placeOf_n41 (host := "SnowSites") (by decide +kernel) (List.mem_of_getElem? (i := 10) (by decide +kernel)) (List.mem_of_getElem? (i := 9) (by decide +kernel)) (by decide +kernel) rfl ⟨by decide, by decide⟩ [] rfl (by decide) rfl (Nat.le_of_ble_eq_true rfl) rfl rfl dX4_melt_22 ?_ hkR
              refine z_istore h (by decide) (lv' := [(4, .int (nI (s * 6 + t))), (0, .ref (q 0)), (1, .int hr), (2, .int (nI s)), (3, .int (nI t))]) rfl dX4_melt_25 ?_
              refine z_aload_n h 1 rfl dX4_melt_27 ?_
              refine z_get h 0 3 4 (v := .ref (q 5)) rfl rfl iX4_melt_X4 (by decide) (List.mem_of_getElem? (i := 2) (by decide +kernel)) rfl rfl dX4_melt_28 ?_
              refine z_iload h 0 rfl dX4_melt_31 ?_
              refine z_iald h 5 (s * 6 + t) (f := g 6) rfl rfl rfl (by omega) (by decide) dX4_melt_33 ?_
              refine z_callS h (As := [.int ((g 6) (s * 6 + t))]) (st := []) (ws2 := zSt (zy E) q (va_up g 8 (mlI g hr s (mlO g hr s) t))) (B := []) (B' := []) (r := some (.int (rt ((g 6) (s * 6 + t))))) 1 (c_X4_rateOf ((g 6) (s * 6 + t))) gX4_melt_X4_rateOf (by decide +kernel) rfl ⟨by decide, by decide⟩ [] rfl (by decide) rfl (Nat.le_of_ble_eq_true rfl) rfl rfl dX4_melt_34 ?_ hkR
              refine z_aload_n h 1 rfl dX4_melt_37 ?_
              refine z_iload_n h 3 rfl dX4_melt_38 ?_
              refine z_iload_n h 4 rfl dX4_melt_39 ?_
              refine z_iload_n h 2 rfl dX4_melt_40 ?_
              refine z_callV h (As := [.int (nI s), .int (nI t), .int hr]) (st := [.int (rt ((g 6) (s * 6 + t)))]) (ws2 := zSt (zy E) q (va_up g 8 (mlI g hr s (mlO g hr s) t))) (B := zSt (zy E) q (va_up g 8 (mlI g hr s (mlO g hr s) t))) (B' := zSt (zy E) q (va_up g 8 (mlI g hr s (mlO g hr s) t))) (r := some (.int (fcs (va_up g 8 (mlI g hr s (mlO g hr s) t)) s t hr))) 3 (c_X4_facesInSun q (va_up g 8 (mlI g hr s (mlO g hr s) t)) s t hr (by omega)) gX4_melt_X4_facesInSun (q0 := 0) (ci := 3) (by decide +kernel) rfl rfl rfl ⟨by decide, by decide⟩ [0, 1, 2, 3, 4, 5, 6, 7] rfl (by decide) rfl (Nat.le_of_ble_eq_true rfl) rfl rfl dX4_melt_41 ?_ hkR
              refine z_imul h dX4_melt_44 ?_
              refine z_istore h (by decide) (lv' := [(5, .int ((rt ((g 6) (s * 6 + t))) * (fcs (va_up g 8 (mlI g hr s (mlO g hr s) t)) s t hr))), (4, .int (nI (s * 6 + t))), (0, .ref (q 0)), (1, .int hr), (2, .int (nI s)), (3, .int (nI t))]) rfl dX4_melt_45 ?_
              refine z_aload_n h 2 rfl dX4_melt_47 ?_
              refine z_get h 0 3 6 (v := .ref (q 7)) rfl rfl iX4_melt_X4 (by decide) (List.mem_of_getElem? (i := 3) (by decide +kernel)) rfl rfl dX4_melt_48 ?_
              refine z_iload h 1 rfl dX4_melt_51 ?_
              refine z_iload h 0 rfl dX4_melt_53 ?_
              refine z_aload_n h 2 rfl dX4_melt_55 ?_
              refine z_get h 0 3 5 (v := .ref (q 6)) rfl rfl iX4_melt_X4 (by decide) (List.mem_of_getElem? (i := 4) (by decide +kernel)) rfl rfl dX4_melt_56 ?_
              refine z_iload h 1 rfl dX4_melt_59 ?_
              refine z_iald h 6 (s * 6 + t) (f := g 7) rfl rfl rfl (by omega) (by decide) dX4_melt_61 ?_
              refine z_min h (List.mem_of_getElem? (i := 5) (by decide +kernel)) (List.mem_of_getElem? (i := 6) (by decide +kernel)) (List.mem_of_getElem? (i := 7) (by decide +kernel)) (List.mem_of_getElem? (i := 8) (by decide +kernel)) ⟨by decide, Nat.le_of_ble_eq_true rfl⟩ hkR dX4_melt_62 ?_
              refine z_top (lsV g hr s t) rfl ?_
              refine z_iast h 7 (s * 6 + t) (lsV g hr s t) (ws' := zSt (zy E) q (va_up g 8 (upd (mlI g hr s (mlO g hr s) t) (s * 6 + t) (lsV g hr s t)))) rfl rfl rfl rfl (by omega) (by decide) rfl dX4_melt_65 ?_
              refine z_iinc h 5 (nI (t + 1)) rfl z_i1 (by decide) (lv' := [(3, .int (nI (t + 1))), (5, .int ((rt ((g 6) (s * 6 + t))) * (fcs (va_up g 8 (mlI g hr s (mlO g hr s) t)) s t hr))), (4, .int (nI (s * 6 + t))), (0, .ref (q 0)), (1, .int hr), (2, .int (nI s))]) rfl dX4_melt_66 ?_
              refine z_goto h 10 dX4_melt_69 (by decide) ?_
              refine z_sub [3, 4, 5, 0] (lv' := [(0, .ref (q 0)), (1, .int hr), (2, .int (nI s)), (3, .int (nI (t + 1)))]) rfl ?_
              exact z_cast (ih_10 (t + 1) (by omega) (by omega)) rfl rfl rfl
        refine z_sub [1, 2, 3, 0] (lv' := [(0, .ref (q 0)), (1, .int hr), (2, .int (nI s)), (3, .int (nI 0))]) rfl ?_
        exact z_cast (lp_10 ((zh g s) + 1) 0 (by omega) (by omega)) rfl rfl rfl
  refine z_sub [1, 2, 0] (lv' := [(0, .ref (q 0)), (1, .int hr), (2, .int (nI 0))]) rfl ?_
  exact z_cast (lp_2 (8 + 1) 0 (by omega) (by omega)) rfl rfl rfl

