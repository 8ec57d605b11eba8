/-! ===== lines in the plane ===== -/
def crI (ax ay bx y1 x y : Int) : Int := (bx - ax) * (y - ay) - (y1 - ay) * (x - ax)
def btw (v a b : Int) : Prop := a ≤ v ∧ v ≤ b ∨ b ≤ v ∧ v ≤ a
def onC (px py qx qy x y : Int) : Prop := crI px py qx qy x y = 0 ∧ btw x px qx ∧ btw y py qy
def opp (u v : Int) : Prop := ¬ (0 < u ∧ 0 < v) ∧ ¬ (u < 0 ∧ v < 0)
def ovl (a b c d : Int) : Prop := (c ≤ a ∨ c ≤ b ∨ d ≤ a ∨ d ≤ b) ∧ (a ≤ c ∨ a ≤ d ∨ b ≤ c ∨ b ≤ d)
theorem cr_id {ax ay bx y1 cx cy dx dy : Int} : -crI cx cy dx dy bx y1 * ax + crI cx cy dx dy ax ay * bx = crI ax ay bx y1 dx dy * cx - crI ax ay bx y1 cx cy * dx := by
  unfold crI; grind
theorem cr_idy {ax ay bx y1 cx cy dx dy : Int} : -crI cx cy dx dy bx y1 * ay + crI cx cy dx dy ax ay * y1 = crI ax ay bx y1 dx dy * cy - crI ax ay bx y1 cx cy * dy := by
  unfold crI; grind
theorem cr_w {ax ay bx y1 cx cy dx dy : Int} : crI cx cy dx dy ax ay - crI cx cy dx dy bx y1 = crI ax ay bx y1 dx dy - crI ax ay bx y1 cx cy := by
  unfold crI; grind
theorem cr_sw {ax ay bx y1 x y : Int} : crI bx y1 ax ay x y = -crI ax ay bx y1 x y := by
  unfold crI; grind
theorem bal {p q u v : Int} (hp : 0 ≤ p) (hq : 0 ≤ q) (h : 0 < p + q) (e : p * u + q * v = 0) : u ≤ 0 ∧ 0 ≤ v ∨ v ≤ 0 ∧ 0 ≤ u := by
  refine Classical.byContradiction (fun hc => ?_)
  rcases (show 0 < u ∧ 0 < v ∨ u < 0 ∧ v < 0 by omega) with ⟨h1, h2⟩ | ⟨h1, h2⟩
  · have a1 : p * 1 ≤ p * u := Int.mul_le_mul_of_nonneg_left (by omega) hp
    have a2 : q * 1 ≤ q * v := Int.mul_le_mul_of_nonneg_left (by omega) hq
    omega
  · have a1 : p * u ≤ p * (-1) := Int.mul_le_mul_of_nonneg_left (by omega) hp
    have a2 : q * v ≤ q * (-1) := Int.mul_le_mul_of_nonneg_left (by omega) hq
    omega
theorem l3c {X u Y v : Int} (hX : 0 < X) (h0 : 0 ≤ u) (h1 : u ≤ X) (e : X * v = Y * u) : 0 ≤ v ∧ v ≤ Y ∨ Y ≤ v ∧ v ≤ 0 := by
  rcases Int.le_total 0 Y with hY | hY
  · left
    have a1 : 0 ≤ Y * u := Int.mul_nonneg hY h0
    have a2 : Y * u ≤ Y * X := Int.mul_le_mul_of_nonneg_left h1 hY
    refine ⟨?_, ?_⟩
    · refine Int.not_lt.mp (fun z => ?_)
      have : X * v ≤ X * (-1) := Int.mul_le_mul_of_nonneg_left (by omega) (by omega)
      omega
    · refine Int.not_lt.mp (fun z => ?_)
      have h3 : X * (Y + 1) ≤ X * v := Int.mul_le_mul_of_nonneg_left (by omega) (by omega)
      rw [Int.mul_add] at h3
      have h4 : Y * X = X * Y := Int.mul_comm Y X
      omega
  · right
    have a1 : Y * u ≤ 0 := Int.mul_nonpos_of_nonpos_of_nonneg hY h0
    have a2 : Y * X ≤ Y * u := Int.mul_le_mul_of_nonpos_left hY h1
    refine ⟨?_, ?_⟩
    · refine Int.not_lt.mp (fun z => ?_)
      have h3 : X * v ≤ X * (Y - 1) := Int.mul_le_mul_of_nonneg_left (by omega) (by omega)
      rw [Int.mul_sub] at h3
      have h4 : Y * X = X * Y := Int.mul_comm Y X
      omega
    · refine Int.not_lt.mp (fun z => ?_)
      have : X * 1 ≤ X * v := Int.mul_le_mul_of_nonneg_left (by omega) (by omega)
      omega
theorem l3x {ax ay bx y1 cx cy : Int} (h : crI ax ay bx y1 cx cy = 0) (hn : ax ≠ bx) (hb : btw cx ax bx) : btw cy ay y1 := by
  unfold crI at h
  unfold btw at *
  rcases Int.lt_or_gt_of_ne hn with z | z
  · have := l3c (X := bx - ax) (u := cx - ax) (Y := y1 - ay) (v := cy - ay) (by omega) (by omega) (by omega) (by omega)
    omega
  · have e : (ax - bx) * (cy - ay) = (y1 - ay) * (ax - cx) := by grind
    have := l3c (X := ax - bx) (u := ax - cx) (Y := y1 - ay) (v := cy - ay) (by omega) (by omega) (by omega) e
    omega
theorem l3y {ax ay bx y1 cx cy : Int} (h : crI ax ay bx y1 cx cy = 0) (hn : ay ≠ y1) (hb : btw cy ay y1) : btw cx ax bx := by
  refine l3x (ax := ay) (ay := ax) (bx := y1) (y1 := bx) (cx := cy) (cy := cx) ?_ hn hb
  unfold crI at *; grind
theorem l2 {ax ay bx y1 cx cy dx dy : Int} (h1 : crI ax ay bx y1 cx cy = 0) (h2 : crI ax ay bx y1 dx dy = 0) (h3 : crI cx cy dx dy ax ay = 0) (hx : ovl ax bx cx dx) (hy : ovl ay y1 cy dy) : onC ax ay bx y1 cx cy ∨ onC ax ay bx y1 dx dy ∨ onC cx cy dx dy ax ay := by
  unfold ovl at hx hy
  by_cases e1 : ax = bx
  · by_cases e2 : ay = y1
    · by_cases e3 : cx = dx
      · by_cases e4 : cy = dy
        · exact Or.inl ⟨h1, by unfold btw; omega, by unfold btw; omega⟩
        · have hb : btw ay cy dy := by unfold btw; omega
          exact Or.inr (Or.inr ⟨h3, l3y h3 e4 hb, hb⟩)
      · have hb : btw ax cx dx := by unfold btw; omega
        exact Or.inr (Or.inr ⟨h3, hb, l3x h3 e3 hb⟩)
    · rcases (show btw cy ay y1 ∨ btw dy ay y1 ∨ btw ay cy dy ∧ cy ≠ dy by unfold btw; omega) with hb | hb | ⟨hb, hn⟩
      · exact Or.inl ⟨h1, l3y h1 e2 hb, hb⟩
      · exact Or.inr (Or.inl ⟨h2, l3y h2 e2 hb, hb⟩)
      · exact Or.inr (Or.inr ⟨h3, l3y h3 hn hb, hb⟩)
  · rcases (show btw cx ax bx ∨ btw dx ax bx ∨ btw ax cx dx ∧ cx ≠ dx by unfold btw; omega) with hb | hb | ⟨hb, hn⟩
    · exact Or.inl ⟨h1, hb, l3x h1 e1 hb⟩
    · exact Or.inr (Or.inl ⟨h2, hb, l3x h2 e1 hb⟩)
    · exact Or.inr (Or.inr ⟨h3, hb, l3x h3 hn hb⟩)
theorem l1 {ax ay bx y1 cx cy dx dy : Int} (h1 : crI ax ay bx y1 cx cy = 0) (ho : opp (crI cx cy dx dy ax ay) (crI cx cy dx dy bx y1)) (hx : ovl ax bx cx dx) (hy : ovl ay y1 cy dy) : onC ax ay bx y1 cx cy ∨ onC ax ay bx y1 dx dy ∨ onC cx cy dx dy ax ay := by
  have i1 := cr_id (ax := ax) (ay := ay) (bx := bx) (y1 := y1) (cx := cx) (cy := cy) (dx := dx) (dy := dy)
  have i2 := cr_idy (ax := ax) (ay := ay) (bx := bx) (y1 := y1) (cx := cx) (cy := cy) (dx := dx) (dy := dy)
  have i3' := cr_w (ax := ax) (ay := ay) (bx := bx) (y1 := y1) (cx := cx) (cy := cy) (dx := dx) (dy := dy)
  rw [h1] at i1 i2 i3'
  by_cases hz : crI cx cy dx dy ax ay = 0 ∧ crI cx cy dx dy bx y1 = 0
  · exact l2 h1 (by omega) hz.1 hx hy
  · left
    generalize crI cx cy dx dy ax ay = c3 at *
    generalize crI cx cy dx dy bx y1 = c4 at *
    generalize crI ax ay bx y1 dx dy = c2 at *
    obtain ⟨o1, o2⟩ := ho
    have e2 : c2 = c3 - c4 := by omega
    subst e2
    have ex : -c4 * (ax - cx) + c3 * (bx - cx) = 0 := by grind
    have ey : -c4 * (ay - cy) + c3 * (y1 - cy) = 0 := by grind
    rcases (show 0 ≤ -c4 ∧ 0 ≤ c3 ∧ 0 < -c4 + c3 ∨ 0 ≤ c4 ∧ 0 ≤ -c3 ∧ 0 < c4 + -c3 by omega) with ⟨p1, p2, p3⟩ | ⟨p1, p2, p3⟩
    · have bx' := bal p1 p2 p3 ex
      have by' := bal p1 p2 p3 ey
      exact ⟨h1, by unfold btw; omega, by unfold btw; omega⟩
    · have bx' := bal (u := ax - cx) (v := bx - cx) p1 p2 p3 (by grind)
      have by' := bal (u := ay - cy) (v := y1 - cy) p1 p2 p3 (by grind)
      exact ⟨h1, by unfold btw; omega, by unfold btw; omega⟩
/-- of a place on a line: the other line's sides are on both sides of it -/
theorem k1 {ax ay bx y1 cx cy dx dy : Int} (h : onC ax ay bx y1 cx cy) : opp (crI cx cy dx dy ax ay) (crI cx cy dx dy bx y1) := by
  obtain ⟨h1, hx, hy⟩ := h
  have i1 := cr_id (ax := ax) (ay := ay) (bx := bx) (y1 := y1) (cx := cx) (cy := cy) (dx := dx) (dy := dy)
  have i2 := cr_idy (ax := ax) (ay := ay) (bx := bx) (y1 := y1) (cx := cx) (cy := cy) (dx := dx) (dy := dy)
  have i3' := cr_w (ax := ax) (ay := ay) (bx := bx) (y1 := y1) (cx := cx) (cy := cy) (dx := dx) (dy := dy)
  rw [h1] at i1 i2 i3'
  have zc : ax = cx → ay = cy → crI cx cy dx dy ax ay = 0 := fun e1 e2 => by subst e1; subst e2; unfold crI; grind
  have zd : bx = cx → y1 = cy → crI cx cy dx dy bx y1 = 0 := fun e1 e2 => by subst e1; subst e2; unfold crI; grind
  generalize crI cx cy dx dy ax ay = c3 at *
  generalize crI cx cy dx dy bx y1 = c4 at *
  generalize crI ax ay bx y1 dx dy = c2 at *
  have e2 : c2 = c3 - c4 := by omega
  subst e2
  have ex : c4 * (cx - ax) = c3 * (cx - bx) := by grind
  have ey : c4 * (cy - ay) = c3 * (cy - y1) := by grind
  have key : ∀ {p q u v : Int}, 0 < p → 0 < q → p * u = q * v → (0 ≤ u ∧ v ≤ 0 ∨ u ≤ 0 ∧ 0 ≤ v) → u = 0 ∧ v = 0 := by
    intro p q u v hp hq e hs
    rcases hs with ⟨s1, s2⟩ | ⟨s1, s2⟩
    · have a1 : 0 ≤ p * u := Int.mul_nonneg (by omega) s1
      have a2 : q * v ≤ 0 := Int.mul_nonpos_of_nonneg_of_nonpos (by omega) s2
      have a3 : p * u = 0 := by omega
      have a4 : q * v = 0 := by omega
      exact ⟨(Int.mul_eq_zero.mp a3).resolve_left (by omega), (Int.mul_eq_zero.mp a4).resolve_left (by omega)⟩
    · have a1 : p * u ≤ 0 := Int.mul_nonpos_of_nonneg_of_nonpos (by omega) s1
      have a2 : 0 ≤ q * v := Int.mul_nonneg (by omega) s2
      have a3 : p * u = 0 := by omega
      have a4 : q * v = 0 := by omega
      exact ⟨(Int.mul_eq_zero.mp a3).resolve_left (by omega), (Int.mul_eq_zero.mp a4).resolve_left (by omega)⟩
  unfold btw at hx hy
  constructor
  · rintro ⟨p1, p2⟩
    have k1 := key p2 p1 ex (by omega)
    have k2 := key p2 p1 ey (by omega)
    have := zc (by omega) (by omega)
    omega
  · rintro ⟨p1, p2⟩
    have k1 := key (p := -c4) (q := -c3) (u := cx - ax) (v := cx - bx) (by omega) (by omega) (by grind) (by omega)
    have k2 := key (p := -c4) (q := -c3) (u := cy - ay) (v := cy - y1) (by omega) (by omega) (by grind) (by omega)
    have := zc (by omega) (by omega)
    omega
theorem wt {p q r s a b c d : Int} (hp : 0 ≤ p) (hq : 0 ≤ q) (hr : 0 ≤ r) (hs : 0 ≤ s) (hw : p + q = r + s) (h0 : 0 < p + q) (e : p * a + q * b = r * c + s * d) : c ≤ a ∨ c ≤ b ∨ d ≤ a ∨ d ≤ b := by
  refine Classical.byContradiction (fun hc => ?_)
  obtain ⟨M, m1, m2, m3, m4⟩ : ∃ M : Int, a ≤ M ∧ b ≤ M ∧ M + 1 ≤ c ∧ M + 1 ≤ d := by
    rcases Int.le_total a b with z | z
    · exact ⟨b, z, Int.le_refl b, by omega, by omega⟩
    · exact ⟨a, Int.le_refl a, z, by omega, by omega⟩
  have a1 : p * a ≤ p * M := Int.mul_le_mul_of_nonneg_left m1 hp
  have a2 : q * b ≤ q * M := Int.mul_le_mul_of_nonneg_left m2 hq
  have a3 : r * (M + 1) ≤ r * c := Int.mul_le_mul_of_nonneg_left m3 hr
  have a4 : s * (M + 1) ≤ s * d := Int.mul_le_mul_of_nonneg_left m4 hs
  have a5 : p * M + q * M = r * M + s * M := by rw [← Int.add_mul, ← Int.add_mul, hw]
  rw [Int.mul_add] at a3 a4
  omega
def crsP (ax ay bx y1 cx cy dx dy : Int) : Prop := (crI ax ay bx y1 cx cy < 0 ∧ 0 < crI ax ay bx y1 dx dy ∨ 0 < crI ax ay bx y1 cx cy ∧ crI ax ay bx y1 dx dy < 0) ∧ (crI cx cy dx dy ax ay < 0 ∧ 0 < crI cx cy dx dy bx y1 ∨ 0 < crI cx cy dx dy ax ay ∧ crI cx cy dx dy bx y1 < 0)
theorem crs_ovl {ax ay bx y1 cx cy dx dy : Int} (h : crsP ax ay bx y1 cx cy dx dy) : ovl ax bx cx dx ∧ ovl ay y1 cy dy := by
  have i1 := cr_id (ax := ax) (ay := ay) (bx := bx) (y1 := y1) (cx := cx) (cy := cy) (dx := dx) (dy := dy)
  have i2 := cr_idy (ax := ax) (ay := ay) (bx := bx) (y1 := y1) (cx := cx) (cy := cy) (dx := dx) (dy := dy)
  have i3' := cr_w (ax := ax) (ay := ay) (bx := bx) (y1 := y1) (cx := cx) (cy := cy) (dx := dx) (dy := dy)
  unfold crsP at h
  generalize crI cx cy dx dy ax ay = c3 at *
  generalize crI cx cy dx dy bx y1 = c4 at *
  generalize crI ax ay bx y1 dx dy = c2 at *
  generalize crI ax ay bx y1 cx cy = c1 at *
  rcases (show (0 ≤ -c4 ∧ 0 ≤ c3 ∧ 0 ≤ c2 ∧ 0 ≤ -c1 ∧ 0 < -c4 + c3) ∨ (0 ≤ c4 ∧ 0 ≤ -c3 ∧ 0 ≤ -c2 ∧ 0 ≤ c1 ∧ 0 < c4 + -c3) by omega) with ⟨p1, p2, p3, p4, p5⟩ | ⟨p1, p2, p3, p4, p5⟩
  · refine ⟨⟨wt p1 p2 p3 p4 (by omega) p5 (by grind), ?_⟩, ⟨wt p1 p2 p3 p4 (by omega) p5 (by grind), ?_⟩⟩
    · have := wt (a := cx) (b := dx) (c := ax) (d := bx) p3 p4 p1 p2 (by omega) (by omega) (by grind); omega
    · have := wt (a := cy) (b := dy) (c := ay) (d := y1) p3 p4 p1 p2 (by omega) (by omega) (by grind); omega
  · refine ⟨⟨wt p1 p2 p3 p4 (by omega) p5 (by grind), ?_⟩, ⟨wt p1 p2 p3 p4 (by omega) p5 (by grind), ?_⟩⟩
    · have := wt (a := cx) (b := dx) (c := ax) (d := bx) p3 p4 p1 p2 (by omega) (by omega) (by grind); omega
    · have := wt (a := cy) (b := dy) (c := ay) (d := y1) p3 p4 p1 p2 (by omega) (by omega) (by grind); omega
theorem opp_n {u v : Int} (h : opp u v) : opp (-u) (-v) := by unfold opp at *; omega
theorem opp_s {u v : Int} (h : opp u v) : opp v u := by unfold opp at *; omega
theorem on_s {px py qx qy x y : Int} (h : onC px py qx qy x y) : onC qx qy px py x y := by
  obtain ⟨h1, h2, h3⟩ := h
  refine ⟨by rw [cr_sw]; omega, ?_, ?_⟩ <;> (unfold btw at *; omega)
/-- lines meet: both ways to say it -/
theorem tou_met {ax ay bx y1 cx cy dx dy : Int} : (ovl ax bx cx dx ∧ ovl ay y1 cy dy ∧ opp (crI ax ay bx y1 cx cy) (crI ax ay bx y1 dx dy) ∧ opp (crI cx cy dx dy ax ay) (crI cx cy dx dy bx y1)) ↔ (crsP ax ay bx y1 cx cy dx dy ∨ onC ax ay bx y1 cx cy ∨ onC ax ay bx y1 dx dy ∨ onC cx cy dx dy ax ay ∨ onC cx cy dx dy bx y1) := by
  constructor
  · rintro ⟨hx, hy, o1, o2⟩
    by_cases z1 : crI ax ay bx y1 cx cy = 0
    · rcases l1 z1 o2 hx hy with h | h | h
      · exact Or.inr (Or.inl h)
      · exact Or.inr (Or.inr (Or.inl h))
      · exact Or.inr (Or.inr (Or.inr (Or.inl h)))
    by_cases z2 : crI ax ay bx y1 dx dy = 0
    · have o2' : opp (crI dx dy cx cy ax ay) (crI dx dy cx cy bx y1) := by rw [cr_sw, cr_sw (x := bx)]; exact opp_n o2
      rcases l1 z2 o2' (by unfold ovl at *; omega) (by unfold ovl at *; omega) with h | h | h
      · exact Or.inr (Or.inr (Or.inl h))
      · exact Or.inr (Or.inl h)
      · exact Or.inr (Or.inr (Or.inr (Or.inl (on_s h))))
    by_cases z3 : crI cx cy dx dy ax ay = 0
    · rcases l1 z3 o1 (by unfold ovl at *; omega) (by unfold ovl at *; omega) with h | h | h
      · exact Or.inr (Or.inr (Or.inr (Or.inl h)))
      · exact Or.inr (Or.inr (Or.inr (Or.inr h)))
      · exact Or.inr (Or.inl h)
    by_cases z4 : crI cx cy dx dy bx y1 = 0
    · have o1' : opp (crI bx y1 ax ay cx cy) (crI bx y1 ax ay dx dy) := by rw [cr_sw, cr_sw (x := dx)]; exact opp_n o1
      rcases l1 z4 o1' (by unfold ovl at *; omega) (by unfold ovl at *; omega) with h | h | h
      · exact Or.inr (Or.inr (Or.inr (Or.inr h)))
      · exact Or.inr (Or.inr (Or.inr (Or.inl h)))
      · exact Or.inr (Or.inl (on_s h))
    left
    unfold crsP
    unfold opp at o1 o2
    omega
  · have sp : ∀ {ax ay bx y1 cx cy dx dy : Int}, onC ax ay bx y1 cx cy → ovl ax bx cx dx ∧ ovl ay y1 cy dy := fun h => by
      obtain ⟨-, h2, h3⟩ := h
      unfold btw at h2 h3
      unfold ovl
      omega
    rintro (h | h | h | h | h)
    · obtain ⟨hx, hy⟩ := crs_ovl h
      refine ⟨hx, hy, ?_, ?_⟩ <;> (unfold crsP at h; unfold opp; omega)
    · obtain ⟨hx, hy⟩ := sp (dx := dx) (dy := dy) h
      refine ⟨hx, hy, ?_, k1 h⟩
      have := h.1
      unfold opp; omega
    · obtain ⟨hx, hy⟩ := sp (dx := cx) (dy := cy) h
      have k := k1 (dx := cx) (dy := cy) h
      rw [cr_sw, cr_sw (x := bx)] at k
      have k := opp_n k
      rw [Int.neg_neg, Int.neg_neg] at k
      refine ⟨by unfold ovl at *; omega, by unfold ovl at *; omega, ?_, k⟩
      have := h.1
      unfold opp; omega
    · obtain ⟨hx, hy⟩ := sp (dx := bx) (dy := y1) h
      have k := k1 (dx := bx) (dy := y1) h
      refine ⟨by unfold ovl at *; omega, by unfold ovl at *; omega, k, ?_⟩
      have := h.1
      unfold opp; omega
    · obtain ⟨hx, hy⟩ := sp (dx := ax) (dy := ay) h
      have k := k1 (dx := ax) (dy := ay) h
      rw [cr_sw, cr_sw (x := dx)] at k
      have k := opp_n k
      rw [Int.neg_neg, Int.neg_neg] at k
      refine ⟨by unfold ovl at *; omega, by unfold ovl at *; omega, k, ?_⟩
      have := h.1
      unfold opp; omega
