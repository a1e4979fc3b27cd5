/-! the calls that ask of the field -/
section NQ1
theorem mZ.qm {M M1 : Mem} (q : QM 146 M M1) : mZ M M1 := ⟨q.1.mono (fun z p => by omega), q.2.1 26 (by omega) (by omega), q.2.2⟩
theorem n_q {fc fm : Mem → Option (Int32 × Mem)} (q : Fld → Int × Int) (hc : ∀ g F M, CI 0 g F M → CQ 0 g F M (fc M) (q F)) (hm : ∀ F M, WF F → MR 146 0 F M → mQ 146 M (fm M) (q F)) : STEP fc fm := by
  rintro M ⟨D, T, P, V, k, mk, Q, S, ok, ⟨g, gs, y, ys, C⟩, R, L, E⟩
  obtain ⟨M1, h1, h2⟩ := hc g D.1 M C.2.1.1
  exact glue ok L E R h2 (C.qt ok.2.2.2.1.1.2 h1) (cZ.of h1.2 (fun z q => by have := q.1; have := q.2; omega)) (fun Ma RA _ => by
    obtain ⟨M2, a1, a2⟩ := hm D.1 Ma ok.1.1.1 RA.1.1
    exact ⟨M2, a2, RA.qm a1, mZ.qm a1⟩)
theorem n_f {fc fm : Mem → Option (Int32 × Mem)} (q : Fld → Fq) (hc : ∀ g F M, CI 0 g F M → CF 0 g F M (fc M) (q F)) (hm : ∀ F M, WF F → MR 146 0 F M → mF 146 M (fm M) (q F)) : STEP fc fm := by
  rintro M ⟨D, T, P, V, k, mk, Q, S, ok, ⟨g, gs, y, ys, C⟩, R, L, E⟩
  obtain ⟨M1, h1, h2⟩ := hc g D.1 M C.2.1.1
  exact glueF ok L E R h2 (C.qt ok.2.2.2.1.1.2 h1) (cZ.of h1.2 (fun z q => by have := q.1; have := q.2; omega)) (fun Ma RA => by
    obtain ⟨M2, a1, a2⟩ := hm D.1 Ma ok.1.1.1 RA.1.1
    exact ⟨M2, a2, RA.qm a1, mZ.qm a1⟩)
theorem n_told (a : Int32) : STEP (fX10_told 0 a) (fX11_told 146 a) := by
  obtain ⟨xa, ha, rfl⟩ := iI_ex a
  exact n_q (fun F => q_told F xa) (fun g F M I => cq_told I ha) (fun F M w G => mq_told G ha)
theorem n_skip (a : Int32) : STEP (fX10_skip 0 a) (fX11_skip 146 a) := by
  obtain ⟨xa, ha, rfl⟩ := iI_ex a
  exact n_q (fun F => q_skip F xa) (fun g F M I => cq_skip I ha) (fun F M w G => mq_skip w G ha)
theorem n_unlike (a b : Int32) : STEP (fX10_unlike 0 a b) (fX11_unlike 146 a b) := by
  obtain ⟨xa, ha, rfl⟩ := iI_ex a
  obtain ⟨xb, hb, rfl⟩ := iI_ex b
  exact n_q (fun F => q_unlike F xa xb) (fun g F M I => cq_unlike I ha hb) (fun F M w G => mq_unlike w G ha hb)
theorem n_hole {φ : Nat} (hφ : 30000 < φ) (a b : Int32) : STEP (fX10_hole φ 0 a b) (fX11_hole φ 146 a b) := by
  obtain ⟨xa, ha, rfl⟩ := iI_ex a
  obtain ⟨xb, hb, rfl⟩ := iI_ex b
  exact n_q (fun F => q_hole F xa xb) (fun g F M I => cq_hole I ha hb (by omega)) (fun F M w G => mq_hole w G ha hb (by omega))
theorem n_layer {φ : Nat} (hφ : 30000 < φ) (a b c : Int32) : STEP (fX10_layer φ 0 a b c) (fX11_layer φ 146 a b c) := by
  obtain ⟨xa, ha, rfl⟩ := iI_ex a
  obtain ⟨xb, hb, rfl⟩ := iI_ex b
  obtain ⟨xc, hc, rfl⟩ := iI_ex c
  exact n_q (fun F => q_layer F xa xb xc) (fun g F M I => cq_layer I ha hb hc (by omega)) (fun F M w G => mq_layer w G ha hb hc (by omega))
theorem n_layerAt {φ : Nat} (hφ : 30000 < φ) (a b : Int32) : STEP (fX10_layerAt φ 0 a b) (fX11_layerAt φ 146 a b) := by
  obtain ⟨xa, ha, rfl⟩ := iI_ex a
  obtain ⟨xb, hb, rfl⟩ := iI_ex b
  exact n_q (fun F => q_layerAt F xa xb) (fun g F M I => cq_layerAt I ha hb (by omega)) (fun F M w G => mq_layerAt w G ha hb (by omega))
theorem n_side (a b : Int32) : STEP (fX10_side 0 a b) (fX11_side 146 a b) := by
  obtain ⟨xa, ha, rfl⟩ := iI_ex a
  obtain ⟨xb, hb, rfl⟩ := iI_ex b
  exact n_q (fun F => q_side F xa xb) (fun g F M I => cq_side I ha hb) (fun F M w G => mq_side w G ha hb)
theorem n_across {φ : Nat} (hφ : 30000 < φ) (a : Int32) : STEP (fX10_across φ 0 a) (fX11_across φ 146 a) := by
  obtain ⟨xa, ha, rfl⟩ := iI_ex a
  exact n_q (fun F => q_across F xa) (fun g F M I => cq_across I ha (by omega)) (fun F M w G => mq_across w G ha (by omega))
theorem n_triangleAt {φ : Nat} (hφ : 30000 < φ) (a b : Int32) : STEP (fX10_triangleAt φ 0 a b) (fX11_triangleAt φ 146 a b) := by
  obtain ⟨xa, ha, rfl⟩ := iI_ex a
  obtain ⟨xb, hb, rfl⟩ := iI_ex b
  exact n_q (fun F => q_triAt F xa xb) (fun g F M I => cq_triangleAt I ha hb (by omega)) (fun F M w G => mq_triangleAt w G ha hb (by omega))
theorem n_tree {φ : Nat} (hφ : 30000 < φ) (a b : Int32) : STEP (fX10_tree φ 0 a b) (fX11_tree φ 146 a b) := by
  obtain ⟨xa, ha, rfl⟩ := iI_ex a
  obtain ⟨xb, hb, rfl⟩ := iI_ex b
  exact n_q (fun F => q_tree F xa xb) (fun g F M I => cq_tree I ha hb (by omega)) (fun F M w G => mq_tree w G ha hb (by omega))
theorem n_treeCost {φ : Nat} (hφ : 30000 < φ) : STEP (fX10_treeCost φ 0) (fX11_treeCost φ 146) := by
  exact n_q (fun F => (s_cost F, 0)) (fun g F M I => cq_treeCost I (by omega)) (fun F M w G => mq_treeCost w G (by omega))
theorem n_beds {φ : Nat} (hφ : 30000 < φ) : STEP (fX10_beds φ 0) (fX11_beds φ 146) := by
  exact n_q (fun F => (bN F, 0)) (fun g F M I => cq_beds I (by omega)) (fun F M w G => mq_beds w G (by omega))
theorem n_bedOf {φ : Nat} (hφ : 30000 < φ) (a b : Int32) : STEP (fX10_bedOf φ 0 a b) (fX11_bedOf φ 146 a b) := by
  obtain ⟨xa, ha, rfl⟩ := iI_ex a
  obtain ⟨xb, hb, rfl⟩ := iI_ex b
  exact n_q (fun F => q_bedOf F xa xb) (fun g F M I => cq_bedOf I ha hb (by omega)) (fun F M w G => mq_bedOf w G ha hb (by omega))
theorem n_holesOf {φ : Nat} (hφ : 30000 < φ) (a : Int32) : STEP (fX10_holesOf φ 0 a) (fX11_holesOf φ 146 a) := by
  obtain ⟨xa, ha, rfl⟩ := iI_ex a
  exact n_q (fun F => q_holesOf F xa) (fun g F M I => cq_holesOf I ha (by omega)) (fun F M w G => mq_holesOf w G ha (by omega))
theorem n_bed {φ : Nat} (hφ : 30000 < φ) (a b c : Int32) : STEP (fX10_bed φ 0 a b c) (fX11_bed φ 146 a b c) := by
  obtain ⟨xa, ha, rfl⟩ := iI_ex a
  obtain ⟨xb, hb, rfl⟩ := iI_ex b
  obtain ⟨xc, hc, rfl⟩ := iI_ex c
  exact n_q (fun F => q_bed F xa xb xc) (fun g F M I => cq_bed I ha hb hc (by omega)) (fun F M w G => mq_bed w G ha hb hc (by omega))
theorem n_above {φ : Nat} (hφ : 30000 < φ) (a b : Int32) : STEP (fX10_above φ 0 a b) (fX11_above φ 146 a b) := by
  obtain ⟨xa, ha, rfl⟩ := iI_ex a
  obtain ⟨xb, hb, rfl⟩ := iI_ex b
  exact n_q (fun F => q_above F xa xb) (fun g F M I => cq_above I ha hb (by omega)) (fun F M w G => mq_above w G ha hb (by omega))
theorem n_order {φ : Nat} (hφ : 30000 < φ) (a : Int32) : STEP (fX10_order φ 0 a) (fX11_order φ 146 a) := by
  obtain ⟨xa, ha, rfl⟩ := iI_ex a
  exact n_q (fun F => q_order F xa) (fun g F M I => cq_order I ha (by omega)) (fun F M w G => mq_order w G ha (by omega))
theorem n_widest {φ : Nat} (hφ : 30000 < φ) : STEP (fX10_widest φ 0) (fX11_widest φ 146) := by
  exact n_q (fun F => q_widest F) (fun g F M I => cq_widest I (by omega)) (fun F M w G => mq_widest w G (by omega))
theorem n_deepest {φ : Nat} (hφ : 30000 < φ) (a : Int32) : STEP (fX10_deepest φ 0 a) (fX11_deepest φ 146 a) := by
  obtain ⟨xa, ha, rfl⟩ := iI_ex a
  exact n_q (fun F => q_deepest F xa) (fun g F M I => cq_deepest I ha (by omega)) (fun F M w G => mq_deepest w G ha (by omega))
theorem n_shared {φ : Nat} (hφ : 30000 < φ) (a b : Int32) : STEP (fX10_shared φ 0 a b) (fX11_shared φ 146 a b) := by
  obtain ⟨xa, ha, rfl⟩ := iI_ex a
  obtain ⟨xb, hb, rfl⟩ := iI_ex b
  exact n_q (fun F => q_shared F xa xb) (fun g F M I => cq_shared I ha hb (by omega)) (fun F M w G => mq_shared w G ha hb (by omega))
theorem n_gaps {φ : Nat} (hφ : 30000 < φ) (a : Int32) : STEP (fX10_gaps φ 0 a) (fX11_gaps φ 146 a) := by
  obtain ⟨xa, ha, rfl⟩ := iI_ex a
  exact n_q (fun F => q_gaps F xa) (fun g F M I => cq_gaps I ha (by omega)) (fun F M w G => mq_gaps w G ha (by omega))
theorem n_area {φ : Nat} (hφ : 30000 < φ) (a : Int32) : STEP (fX10_area φ 0 a) (fX11_area φ 146 a) := by
  obtain ⟨xa, ha, rfl⟩ := iI_ex a
  exact n_f (fun F => q_area F xa) (fun g F M I => cf_area I ha (by omega)) (fun F M w G => mf_area w G ha (by omega))
theorem n_topAt {φ : Nat} (hφ : 30000 < φ) (a b c : Int32) : STEP (fX10_topAt φ 0 a b c) (fX11_topAt φ 146 a b c) := by
  obtain ⟨xa, ha, rfl⟩ := iI_ex a
  obtain ⟨xb, hb, rfl⟩ := iI_ex b
  obtain ⟨xc, hc, rfl⟩ := iI_ex c
  exact n_f (fun F => q_topAt F xa xb xc) (fun g F M I => cf_topAt I ha hb hc (by omega)) (fun F M w G => mf_topAt w G ha hb hc (by omega))
theorem n_thickAt {φ : Nat} (hφ : 30000 < φ) (a b c : Int32) : STEP (fX10_thickAt φ 0 a b c) (fX11_thickAt φ 146 a b c) := by
  obtain ⟨xa, ha, rfl⟩ := iI_ex a
  obtain ⟨xb, hb, rfl⟩ := iI_ex b
  obtain ⟨xc, hc, rfl⟩ := iI_ex c
  exact n_f (fun F => q_thickAt F xa xb xc) (fun g F M I => cf_thickAt I ha hb hc (by omega)) (fun F M w G => mf_thickAt w G ha hb hc (by omega))
theorem n_volume {φ : Nat} (hφ : 30000 < φ) (a b : Int32) : STEP (fX10_volume φ 0 a b) (fX11_volume φ 146 a b) := by
  obtain ⟨xa, ha, rfl⟩ := iI_ex a
  obtain ⟨xb, hb, rfl⟩ := iI_ex b
  exact n_f (fun F => q_volume F xa xb) (fun g F M I => cf_volume I ha hb (by omega)) (fun F M w G => mf_volume w G ha hb (by omega))
theorem n_volumeOf {φ : Nat} (hφ : 30000 < φ) (a : Int32) : STEP (fX10_volumeOf φ 0 a) (fX11_volumeOf φ 146 a) := by
  obtain ⟨xa, ha, rfl⟩ := iI_ex a
  exact n_f (fun F => q_volumeOf F xa) (fun g F M I => cf_volumeOf I ha (by omega)) (fun F M w G => mf_volumeOf w G ha (by omega))
theorem n_tilt {φ : Nat} (hφ : 30000 < φ) (a b c : Int32) : STEP (fX10_tilt φ 0 a b c) (fX11_tilt φ 146 a b c) := by
  obtain ⟨xa, ha, rfl⟩ := iI_ex a
  obtain ⟨xb, hb, rfl⟩ := iI_ex b
  obtain ⟨xc, hc, rfl⟩ := iI_ex c
  exact n_f (fun F => q_tilt F xa xb xc) (fun g F M I => cf_tilt I ha hb hc (by omega)) (fun F M w G => mf_tilt w G ha hb hc (by omega))
end NQ1
