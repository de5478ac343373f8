/-! what the reference reads of types, rules and functions is the same -> so are its answers (printed by gen97s.py) -/
def zm_sf (h k : zx_H) : Prop := k.1 25 = h.1 25 ∧ k.1 26 = h.1 26 ∧ k.1 27 = h.1 27 ∧ k.1 28 = h.1 28 ∧ k.1 29 = h.1 29 ∧ k.1 30 = h.1 30 ∧ k.1 31 = h.1 31 ∧ k.1 32 = h.1 32 ∧ k.1 33 = h.1 33 ∧ k.1 34 = h.1 34 ∧ k.1 36 = h.1 36 ∧ k.1 37 = h.1 37 ∧ k.1 38 = h.1 38 ∧ k.1 39 = h.1 39 ∧ k.2 35 = h.2 35 ∧ k.1 24 0 1 = h.1 24 0 1 ∧ k.1 24 0 2 = h.1 24 0 2 ∧ k.1 24 0 8 = h.1 24 0 8 ∧ k.1 24 0 15 = h.1 24 0 15
theorem zk_zs_Ref_isType_J16 {h k : zx_H} (e : zm_sf h k) : zs_Ref_isType_J16 k = zs_Ref_isType_J16 h := by
  obtain ⟨a25, a26, a27, a28, a29, a30, a31, a32, a33, a34, a36, a37, a38, a39, b35, c1, c2, c8, c15⟩ := (show _ from e)
  have e : zm_sf h k := ⟨a25, a26, a27, a28, a29, a30, a31, a32, a33, a34, a36, a37, a38, a39, b35, c1, c2, c8, c15⟩
  unfold zs_Ref_isType_J16
  simp only [a25, a26, a27, a28, a29, a30, a31, a32, a33, a34, a36, a37, a38, a39, b35, c1, c2, c8, c15]
theorem zk_zs_Ref_isType {h k : zx_H} (e : zm_sf h k) (a1 : Int32) : zs_Ref_isType a1 k = zs_Ref_isType a1 h := by
  obtain ⟨a25, a26, a27, a28, a29, a30, a31, a32, a33, a34, a36, a37, a38, a39, b35, c1, c2, c8, c15⟩ := (show _ from e)
  have e : zm_sf h k := ⟨a25, a26, a27, a28, a29, a30, a31, a32, a33, a34, a36, a37, a38, a39, b35, c1, c2, c8, c15⟩
  unfold zs_Ref_isType
  simp only [a25, a26, a27, a28, a29, a30, a31, a32, a33, a34, a36, a37, a38, a39, b35, c1, c2, c8, c15, zk_zs_Ref_isType_J16 e]
theorem zk_zs_Ref_isSort_J34 {h k : zx_H} (e : zm_sf h k) : zs_Ref_isSort_J34 k = zs_Ref_isSort_J34 h := by
  obtain ⟨a25, a26, a27, a28, a29, a30, a31, a32, a33, a34, a36, a37, a38, a39, b35, c1, c2, c8, c15⟩ := (show _ from e)
  have e : zm_sf h k := ⟨a25, a26, a27, a28, a29, a30, a31, a32, a33, a34, a36, a37, a38, a39, b35, c1, c2, c8, c15⟩
  unfold zs_Ref_isSort_J34
  simp only [a25, a26, a27, a28, a29, a30, a31, a32, a33, a34, a36, a37, a38, a39, b35, c1, c2, c8, c15]
theorem zk_zs_Ref_isSort_J25 {h k : zx_H} (e : zm_sf h k) : zs_Ref_isSort_J25 k = zs_Ref_isSort_J25 h := by
  obtain ⟨a25, a26, a27, a28, a29, a30, a31, a32, a33, a34, a36, a37, a38, a39, b35, c1, c2, c8, c15⟩ := (show _ from e)
  have e : zm_sf h k := ⟨a25, a26, a27, a28, a29, a30, a31, a32, a33, a34, a36, a37, a38, a39, b35, c1, c2, c8, c15⟩
  funext x2 s1 
  unfold zs_Ref_isSort_J25
  simp only [a25, a26, a27, a28, a29, a30, a31, a32, a33, a34, a36, a37, a38, a39, b35, c1, c2, c8, c15, zk_zs_Ref_isSort_J34 e]
theorem zk_zs_Ref_isSort {h k : zx_H} (e : zm_sf h k) (a1 : Int32) (a2 : Int32) : zs_Ref_isSort a1 a2 k = zs_Ref_isSort a1 a2 h := by
  obtain ⟨a25, a26, a27, a28, a29, a30, a31, a32, a33, a34, a36, a37, a38, a39, b35, c1, c2, c8, c15⟩ := (show _ from e)
  have e : zm_sf h k := ⟨a25, a26, a27, a28, a29, a30, a31, a32, a33, a34, a36, a37, a38, a39, b35, c1, c2, c8, c15⟩
  unfold zs_Ref_isSort
  simp only [a25, a26, a27, a28, a29, a30, a31, a32, a33, a34, a36, a37, a38, a39, b35, c1, c2, c8, c15, zk_zs_Ref_isType e, zk_zs_Ref_isSort_J25 e, zk_zs_Ref_isSort_J34 e]
theorem zk_zs_Ref_placeOf_J58 {h k : zx_H} (e : zm_sf h k) : zs_Ref_placeOf_J58 k = zs_Ref_placeOf_J58 h := by
  obtain ⟨a25, a26, a27, a28, a29, a30, a31, a32, a33, a34, a36, a37, a38, a39, b35, c1, c2, c8, c15⟩ := (show _ from e)
  have e : zm_sf h k := ⟨a25, a26, a27, a28, a29, a30, a31, a32, a33, a34, a36, a37, a38, a39, b35, c1, c2, c8, c15⟩
  funext k5 x1 x2 x4 s0 
  unfold zs_Ref_placeOf_J58
  simp only [a25, a26, a27, a28, a29, a30, a31, a32, a33, a34, a36, a37, a38, a39, b35, c1, c2, c8, c15]
theorem zk_zs_Ref_placeOf_J36 {h k : zx_H} (e : zm_sf h k) : zs_Ref_placeOf_J36 k = zs_Ref_placeOf_J36 h := by
  obtain ⟨a25, a26, a27, a28, a29, a30, a31, a32, a33, a34, a36, a37, a38, a39, b35, c1, c2, c8, c15⟩ := (show _ from e)
  have e : zm_sf h k := ⟨a25, a26, a27, a28, a29, a30, a31, a32, a33, a34, a36, a37, a38, a39, b35, c1, c2, c8, c15⟩
  funext k5 x1 x2 x3 x4 
  unfold zs_Ref_placeOf_J36
  simp only [a25, a26, a27, a28, a29, a30, a31, a32, a33, a34, a36, a37, a38, a39, b35, c1, c2, c8, c15, zk_zs_Ref_placeOf_J58 e]
theorem zk_zs_Ref_placeOf_L5_body {h k : zx_H} (e : zm_sf h k) : zs_Ref_placeOf_L5_body k = zs_Ref_placeOf_L5_body h := by
  obtain ⟨a25, a26, a27, a28, a29, a30, a31, a32, a33, a34, a36, a37, a38, a39, b35, c1, c2, c8, c15⟩ := (show _ from e)
  have e : zm_sf h k := ⟨a25, a26, a27, a28, a29, a30, a31, a32, a33, a34, a36, a37, a38, a39, b35, c1, c2, c8, c15⟩
  funext k5 x1 x2 x3 x4 
  unfold zs_Ref_placeOf_L5_body
  simp only [a25, a26, a27, a28, a29, a30, a31, a32, a33, a34, a36, a37, a38, a39, b35, c1, c2, c8, c15, zk_zs_Ref_placeOf_J36 e]
theorem zk_zs_Ref_placeOf_L5 {h k : zx_H} (e : zm_sf h k) : zs_Ref_placeOf_L5 k = zs_Ref_placeOf_L5 h := by
  unfold zs_Ref_placeOf_L5
  rw [zk_zs_Ref_placeOf_L5_body e]
theorem zk_zs_Ref_placeOf {h k : zx_H} (e : zm_sf h k) (a1 : Int32) (a2 : Int32) : zs_Ref_placeOf a1 a2 k = zs_Ref_placeOf a1 a2 h := by
  obtain ⟨a25, a26, a27, a28, a29, a30, a31, a32, a33, a34, a36, a37, a38, a39, b35, c1, c2, c8, c15⟩ := (show _ from e)
  have e : zm_sf h k := ⟨a25, a26, a27, a28, a29, a30, a31, a32, a33, a34, a36, a37, a38, a39, b35, c1, c2, c8, c15⟩
  unfold zs_Ref_placeOf
  simp only [a25, a26, a27, a28, a29, a30, a31, a32, a33, a34, a36, a37, a38, a39, b35, c1, c2, c8, c15, zk_zs_Ref_placeOf_L5 e]
theorem zk_zs_Ref_kindOf {h k : zx_H} (e : zm_sf h k) (a0 : Int32) : zs_Ref_kindOf a0 k = zs_Ref_kindOf a0 h := by
  obtain ⟨a25, a26, a27, a28, a29, a30, a31, a32, a33, a34, a36, a37, a38, a39, b35, c1, c2, c8, c15⟩ := (show _ from e)
  have e : zm_sf h k := ⟨a25, a26, a27, a28, a29, a30, a31, a32, a33, a34, a36, a37, a38, a39, b35, c1, c2, c8, c15⟩
  unfold zs_Ref_kindOf
  simp only [a25, a26, a27, a28, a29, a30, a31, a32, a33, a34, a36, a37, a38, a39, b35, c1, c2, c8, c15]
theorem zk_zs_Ref_isAmount_J14 {h k : zx_H} (e : zm_sf h k) : zs_Ref_isAmount_J14 k = zs_Ref_isAmount_J14 h := by
  obtain ⟨a25, a26, a27, a28, a29, a30, a31, a32, a33, a34, a36, a37, a38, a39, b35, c1, c2, c8, c15⟩ := (show _ from e)
  have e : zm_sf h k := ⟨a25, a26, a27, a28, a29, a30, a31, a32, a33, a34, a36, a37, a38, a39, b35, c1, c2, c8, c15⟩
  unfold zs_Ref_isAmount_J14
  simp only [a25, a26, a27, a28, a29, a30, a31, a32, a33, a34, a36, a37, a38, a39, b35, c1, c2, c8, c15]
theorem zk_zs_Ref_isAmount {h k : zx_H} (e : zm_sf h k) (a0 : Int32) : zs_Ref_isAmount a0 k = zs_Ref_isAmount a0 h := by
  obtain ⟨a25, a26, a27, a28, a29, a30, a31, a32, a33, a34, a36, a37, a38, a39, b35, c1, c2, c8, c15⟩ := (show _ from e)
  have e : zm_sf h k := ⟨a25, a26, a27, a28, a29, a30, a31, a32, a33, a34, a36, a37, a38, a39, b35, c1, c2, c8, c15⟩
  unfold zs_Ref_isAmount
  simp only [a25, a26, a27, a28, a29, a30, a31, a32, a33, a34, a36, a37, a38, a39, b35, c1, c2, c8, c15, zk_zs_Ref_isAmount_J14 e]
theorem zk_zs_Ref_firstRule_J47 {h k : zx_H} (e : zm_sf h k) : zs_Ref_firstRule_J47 k = zs_Ref_firstRule_J47 h := by
  obtain ⟨a25, a26, a27, a28, a29, a30, a31, a32, a33, a34, a36, a37, a38, a39, b35, c1, c2, c8, c15⟩ := (show _ from e)
  have e : zm_sf h k := ⟨a25, a26, a27, a28, a29, a30, a31, a32, a33, a34, a36, a37, a38, a39, b35, c1, c2, c8, c15⟩
  funext k6 x1 x2 x3 x4 
  unfold zs_Ref_firstRule_J47
  simp only [a25, a26, a27, a28, a29, a30, a31, a32, a33, a34, a36, a37, a38, a39, b35, c1, c2, c8, c15]
theorem zk_zs_Ref_firstRule_L6_body {h k : zx_H} (e : zm_sf h k) : zs_Ref_firstRule_L6_body k = zs_Ref_firstRule_L6_body h := by
  obtain ⟨a25, a26, a27, a28, a29, a30, a31, a32, a33, a34, a36, a37, a38, a39, b35, c1, c2, c8, c15⟩ := (show _ from e)
  have e : zm_sf h k := ⟨a25, a26, a27, a28, a29, a30, a31, a32, a33, a34, a36, a37, a38, a39, b35, c1, c2, c8, c15⟩
  funext k6 x1 x2 x3 x4 
  unfold zs_Ref_firstRule_L6_body
  simp only [a25, a26, a27, a28, a29, a30, a31, a32, a33, a34, a36, a37, a38, a39, b35, c1, c2, c8, c15, zk_zs_Ref_firstRule_J47 e]
theorem zk_zs_Ref_firstRule_L6 {h k : zx_H} (e : zm_sf h k) : zs_Ref_firstRule_L6 k = zs_Ref_firstRule_L6 h := by
  unfold zs_Ref_firstRule_L6
  rw [zk_zs_Ref_firstRule_L6_body e]
theorem zk_zs_Ref_firstRule {h k : zx_H} (e : zm_sf h k) (a1 : Int32) (a2 : Int32) (a3 : Int32) : zs_Ref_firstRule a1 a2 a3 k = zs_Ref_firstRule a1 a2 a3 h := by
  obtain ⟨a25, a26, a27, a28, a29, a30, a31, a32, a33, a34, a36, a37, a38, a39, b35, c1, c2, c8, c15⟩ := (show _ from e)
  have e : zm_sf h k := ⟨a25, a26, a27, a28, a29, a30, a31, a32, a33, a34, a36, a37, a38, a39, b35, c1, c2, c8, c15⟩
  unfold zs_Ref_firstRule
  simp only [a25, a26, a27, a28, a29, a30, a31, a32, a33, a34, a36, a37, a38, a39, b35, c1, c2, c8, c15, zk_zs_Ref_firstRule_L6 e]
theorem zk_zs_Ref_latest_J41 {h k : zx_H} (e : zm_sf h k) : zs_Ref_latest_J41 k = zs_Ref_latest_J41 h := by
  obtain ⟨a25, a26, a27, a28, a29, a30, a31, a32, a33, a34, a36, a37, a38, a39, b35, c1, c2, c8, c15⟩ := (show _ from e)
  have e : zm_sf h k := ⟨a25, a26, a27, a28, a29, a30, a31, a32, a33, a34, a36, a37, a38, a39, b35, c1, c2, c8, c15⟩
  funext k8 x1 x2 x4 s0 
  unfold zs_Ref_latest_J41
  simp only [a25, a26, a27, a28, a29, a30, a31, a32, a33, a34, a36, a37, a38, a39, b35, c1, c2, c8, c15]
theorem zk_zs_Ref_latest_L8_body {h k : zx_H} (e : zm_sf h k) : zs_Ref_latest_L8_body k = zs_Ref_latest_L8_body h := by
  obtain ⟨a25, a26, a27, a28, a29, a30, a31, a32, a33, a34, a36, a37, a38, a39, b35, c1, c2, c8, c15⟩ := (show _ from e)
  have e : zm_sf h k := ⟨a25, a26, a27, a28, a29, a30, a31, a32, a33, a34, a36, a37, a38, a39, b35, c1, c2, c8, c15⟩
  funext k8 x1 x2 x3 x4 
  unfold zs_Ref_latest_L8_body
  simp only [a25, a26, a27, a28, a29, a30, a31, a32, a33, a34, a36, a37, a38, a39, b35, c1, c2, c8, c15, zk_zs_Ref_latest_J41 e]
theorem zk_zs_Ref_latest_L8 {h k : zx_H} (e : zm_sf h k) : zs_Ref_latest_L8 k = zs_Ref_latest_L8 h := by
  unfold zs_Ref_latest_L8
  rw [zk_zs_Ref_latest_L8_body e]
theorem zk_zs_Ref_latest {h k : zx_H} (e : zm_sf h k) (a1 : Int32) (a2 : Int32) : zs_Ref_latest a1 a2 k = zs_Ref_latest a1 a2 h := by
  obtain ⟨a25, a26, a27, a28, a29, a30, a31, a32, a33, a34, a36, a37, a38, a39, b35, c1, c2, c8, c15⟩ := (show _ from e)
  have e : zm_sf h k := ⟨a25, a26, a27, a28, a29, a30, a31, a32, a33, a34, a36, a37, a38, a39, b35, c1, c2, c8, c15⟩
  unfold zs_Ref_latest
  simp only [a25, a26, a27, a28, a29, a30, a31, a32, a33, a34, a36, a37, a38, a39, b35, c1, c2, c8, c15, zk_zs_Ref_latest_L8 e]
theorem zk_zs_Ref_isNamed_J67 {h k : zx_H} (e : zm_sf h k) : zs_Ref_isNamed_J67 k = zs_Ref_isNamed_J67 h := by
  obtain ⟨a25, a26, a27, a28, a29, a30, a31, a32, a33, a34, a36, a37, a38, a39, b35, c1, c2, c8, c15⟩ := (show _ from e)
  have e : zm_sf h k := ⟨a25, a26, a27, a28, a29, a30, a31, a32, a33, a34, a36, a37, a38, a39, b35, c1, c2, c8, c15⟩
  funext k4 k18 x1 x3 x4 s0 
  unfold zs_Ref_isNamed_J67
  simp only [a25, a26, a27, a28, a29, a30, a31, a32, a33, a34, a36, a37, a38, a39, b35, c1, c2, c8, c15]
theorem zk_zs_Ref_isNamed_J62 {h k : zx_H} (e : zm_sf h k) : zs_Ref_isNamed_J62 k = zs_Ref_isNamed_J62 h := by
  obtain ⟨a25, a26, a27, a28, a29, a30, a31, a32, a33, a34, a36, a37, a38, a39, b35, c1, c2, c8, c15⟩ := (show _ from e)
  have e : zm_sf h k := ⟨a25, a26, a27, a28, a29, a30, a31, a32, a33, a34, a36, a37, a38, a39, b35, c1, c2, c8, c15⟩
  funext k4 k18 x1 x3 x4 
  unfold zs_Ref_isNamed_J62
  simp only [a25, a26, a27, a28, a29, a30, a31, a32, a33, a34, a36, a37, a38, a39, b35, c1, c2, c8, c15, zk_zs_Ref_isNamed_J67 e]
theorem zk_zs_Ref_isNamed_J66 {h k : zx_H} (e : zm_sf h k) : zs_Ref_isNamed_J66 k = zs_Ref_isNamed_J66 h := by
  obtain ⟨a25, a26, a27, a28, a29, a30, a31, a32, a33, a34, a36, a37, a38, a39, b35, c1, c2, c8, c15⟩ := (show _ from e)
  have e : zm_sf h k := ⟨a25, a26, a27, a28, a29, a30, a31, a32, a33, a34, a36, a37, a38, a39, b35, c1, c2, c8, c15⟩
  funext k4 k18 x1 x3 x4 
  unfold zs_Ref_isNamed_J66
  simp only [a25, a26, a27, a28, a29, a30, a31, a32, a33, a34, a36, a37, a38, a39, b35, c1, c2, c8, c15, zk_zs_Ref_isNamed_J67 e]
theorem zk_zs_Ref_isNamed_L18_body {h k : zx_H} (e : zm_sf h k) : zs_Ref_isNamed_L18_body k = zs_Ref_isNamed_L18_body h := by
  obtain ⟨a25, a26, a27, a28, a29, a30, a31, a32, a33, a34, a36, a37, a38, a39, b35, c1, c2, c8, c15⟩ := (show _ from e)
  have e : zm_sf h k := ⟨a25, a26, a27, a28, a29, a30, a31, a32, a33, a34, a36, a37, a38, a39, b35, c1, c2, c8, c15⟩
  funext k4 k18 x1 x2 x3 x4 
  unfold zs_Ref_isNamed_L18_body
  simp only [a25, a26, a27, a28, a29, a30, a31, a32, a33, a34, a36, a37, a38, a39, b35, c1, c2, c8, c15, zk_zs_Ref_isNamed_J62 e, zk_zs_Ref_isNamed_J66 e]
theorem zk_zs_Ref_isNamed_L18 {h k : zx_H} (e : zm_sf h k) : zs_Ref_isNamed_L18 k = zs_Ref_isNamed_L18 h := by
  obtain ⟨a25, a26, a27, a28, a29, a30, a31, a32, a33, a34, a36, a37, a38, a39, b35, c1, c2, c8, c15⟩ := (show _ from e)
  have e : zm_sf h k := ⟨a25, a26, a27, a28, a29, a30, a31, a32, a33, a34, a36, a37, a38, a39, b35, c1, c2, c8, c15⟩
  funext k4 
  unfold zs_Ref_isNamed_L18
  simp only [a25, a26, a27, a28, a29, a30, a31, a32, a33, a34, a36, a37, a38, a39, b35, c1, c2, c8, c15, zk_zs_Ref_isNamed_L18_body e]
theorem zk_zs_Ref_isNamed_L4_body {h k : zx_H} (e : zm_sf h k) : zs_Ref_isNamed_L4_body k = zs_Ref_isNamed_L4_body h := by
  obtain ⟨a25, a26, a27, a28, a29, a30, a31, a32, a33, a34, a36, a37, a38, a39, b35, c1, c2, c8, c15⟩ := (show _ from e)
  have e : zm_sf h k := ⟨a25, a26, a27, a28, a29, a30, a31, a32, a33, a34, a36, a37, a38, a39, b35, c1, c2, c8, c15⟩
  funext k4 x1 x2 x3 
  unfold zs_Ref_isNamed_L4_body
  simp only [a25, a26, a27, a28, a29, a30, a31, a32, a33, a34, a36, a37, a38, a39, b35, c1, c2, c8, c15, zk_zs_Ref_isNamed_L18 e]
theorem zk_zs_Ref_isNamed_L4 {h k : zx_H} (e : zm_sf h k) : zs_Ref_isNamed_L4 k = zs_Ref_isNamed_L4 h := by
  unfold zs_Ref_isNamed_L4
  rw [zk_zs_Ref_isNamed_L4_body e]
theorem zk_zs_Ref_isNamed {h k : zx_H} (e : zm_sf h k) (a1 : Int32) : zs_Ref_isNamed a1 k = zs_Ref_isNamed a1 h := by
  obtain ⟨a25, a26, a27, a28, a29, a30, a31, a32, a33, a34, a36, a37, a38, a39, b35, c1, c2, c8, c15⟩ := (show _ from e)
  have e : zm_sf h k := ⟨a25, a26, a27, a28, a29, a30, a31, a32, a33, a34, a36, a37, a38, a39, b35, c1, c2, c8, c15⟩
  unfold zs_Ref_isNamed
  simp only [a25, a26, a27, a28, a29, a30, a31, a32, a33, a34, a36, a37, a38, a39, b35, c1, c2, c8, c15, zk_zs_Ref_isNamed_L4 e]
theorem zk_zs_Ref_inverseOf {h k : zx_H} (e : zm_sf h k) (a1 : Int32) : zs_Ref_inverseOf a1 k = zs_Ref_inverseOf a1 h := by
  obtain ⟨a25, a26, a27, a28, a29, a30, a31, a32, a33, a34, a36, a37, a38, a39, b35, c1, c2, c8, c15⟩ := (show _ from e)
  have e : zm_sf h k := ⟨a25, a26, a27, a28, a29, a30, a31, a32, a33, a34, a36, a37, a38, a39, b35, c1, c2, c8, c15⟩
  unfold zs_Ref_inverseOf
  simp only [a25, a26, a27, a28, a29, a30, a31, a32, a33, a34, a36, a37, a38, a39, b35, c1, c2, c8, c15, zk_zs_Ref_latest e]
theorem zk_zs_Ref_nameOf_L2_body {h k : zx_H} (e : zm_sf h k) : zs_Ref_nameOf_L2_body k = zs_Ref_nameOf_L2_body h := by
  obtain ⟨a25, a26, a27, a28, a29, a30, a31, a32, a33, a34, a36, a37, a38, a39, b35, c1, c2, c8, c15⟩ := (show _ from e)
  have e : zm_sf h k := ⟨a25, a26, a27, a28, a29, a30, a31, a32, a33, a34, a36, a37, a38, a39, b35, c1, c2, c8, c15⟩
  funext k2 x0 x2 x3 
  unfold zs_Ref_nameOf_L2_body
  simp only [a25, a26, a27, a28, a29, a30, a31, a32, a33, a34, a36, a37, a38, a39, b35, c1, c2, c8, c15]
theorem zk_zs_Ref_nameOf_L2 {h k : zx_H} (e : zm_sf h k) : zs_Ref_nameOf_L2 k = zs_Ref_nameOf_L2 h := by
  unfold zs_Ref_nameOf_L2
  rw [zk_zs_Ref_nameOf_L2_body e]
theorem zk_zs_Ref_nameOf {h k : zx_H} (e : zm_sf h k) (a0 : Int64) (a2 : Int32) : zs_Ref_nameOf a0 a2 k = zs_Ref_nameOf a0 a2 h := by
  obtain ⟨a25, a26, a27, a28, a29, a30, a31, a32, a33, a34, a36, a37, a38, a39, b35, c1, c2, c8, c15⟩ := (show _ from e)
  have e : zm_sf h k := ⟨a25, a26, a27, a28, a29, a30, a31, a32, a33, a34, a36, a37, a38, a39, b35, c1, c2, c8, c15⟩
  unfold zs_Ref_nameOf
  simp only [a25, a26, a27, a28, a29, a30, a31, a32, a33, a34, a36, a37, a38, a39, b35, c1, c2, c8, c15, zk_zs_Ref_nameOf_L2 e]
theorem zk_zs_Ref_byName {h k : zx_H} (e : zm_sf h k) (a1 : Int32) (a2 : Int32) : zs_Ref_byName a1 a2 k = zs_Ref_byName a1 a2 h := by
  obtain ⟨a25, a26, a27, a28, a29, a30, a31, a32, a33, a34, a36, a37, a38, a39, b35, c1, c2, c8, c15⟩ := (show _ from e)
  have e : zm_sf h k := ⟨a25, a26, a27, a28, a29, a30, a31, a32, a33, a34, a36, a37, a38, a39, b35, c1, c2, c8, c15⟩
  unfold zs_Ref_byName
  simp only [a25, a26, a27, a28, a29, a30, a31, a32, a33, a34, a36, a37, a38, a39, b35, c1, c2, c8, c15, zk_zs_Ref_placeOf e]
theorem zk_zs_Ref_pathOf_J109 {h k : zx_H} (e : zm_sf h k) : zs_Ref_pathOf_J109 k = zs_Ref_pathOf_J109 h := by
  obtain ⟨a25, a26, a27, a28, a29, a30, a31, a32, a33, a34, a36, a37, a38, a39, b35, c1, c2, c8, c15⟩ := (show _ from e)
  have e : zm_sf h k := ⟨a25, a26, a27, a28, a29, a30, a31, a32, a33, a34, a36, a37, a38, a39, b35, c1, c2, c8, c15⟩
  funext k42 x1 x2 x4 x5 s0 
  unfold zs_Ref_pathOf_J109
  simp only [a25, a26, a27, a28, a29, a30, a31, a32, a33, a34, a36, a37, a38, a39, b35, c1, c2, c8, c15, zk_zs_Ref_placeOf e, zk_zs_Ref_byName e]
theorem zk_zs_Ref_pathOf_J108 {h k : zx_H} (e : zm_sf h k) : zs_Ref_pathOf_J108 k = zs_Ref_pathOf_J108 h := by
  obtain ⟨a25, a26, a27, a28, a29, a30, a31, a32, a33, a34, a36, a37, a38, a39, b35, c1, c2, c8, c15⟩ := (show _ from e)
  have e : zm_sf h k := ⟨a25, a26, a27, a28, a29, a30, a31, a32, a33, a34, a36, a37, a38, a39, b35, c1, c2, c8, c15⟩
  funext k42 x1 x2 x4 x5 
  unfold zs_Ref_pathOf_J108
  simp only [a25, a26, a27, a28, a29, a30, a31, a32, a33, a34, a36, a37, a38, a39, b35, c1, c2, c8, c15, zk_zs_Ref_pathOf_J109 e]
theorem zk_zs_Ref_pathOf_J162 {h k : zx_H} (e : zm_sf h k) : zs_Ref_pathOf_J162 k = zs_Ref_pathOf_J162 h := by
  obtain ⟨a25, a26, a27, a28, a29, a30, a31, a32, a33, a34, a36, a37, a38, a39, b35, c1, c2, c8, c15⟩ := (show _ from e)
  have e : zm_sf h k := ⟨a25, a26, a27, a28, a29, a30, a31, a32, a33, a34, a36, a37, a38, a39, b35, c1, c2, c8, c15⟩
  funext x1 x2 
  unfold zs_Ref_pathOf_J162
  simp only [a25, a26, a27, a28, a29, a30, a31, a32, a33, a34, a36, a37, a38, a39, b35, c1, c2, c8, c15, zk_zs_Ref_byName e]
theorem zk_zs_Ref_pathOf_L42_body {h k : zx_H} (e : zm_sf h k) : zs_Ref_pathOf_L42_body k = zs_Ref_pathOf_L42_body h := by
  obtain ⟨a25, a26, a27, a28, a29, a30, a31, a32, a33, a34, a36, a37, a38, a39, b35, c1, c2, c8, c15⟩ := (show _ from e)
  have e : zm_sf h k := ⟨a25, a26, a27, a28, a29, a30, a31, a32, a33, a34, a36, a37, a38, a39, b35, c1, c2, c8, c15⟩
  funext k42 x1 x2 x4 x5 
  unfold zs_Ref_pathOf_L42_body
  simp only [a25, a26, a27, a28, a29, a30, a31, a32, a33, a34, a36, a37, a38, a39, b35, c1, c2, c8, c15, zk_zs_Ref_pathOf_J162 e, zk_zs_Ref_nameOf e, zk_zs_Ref_pathOf_J108 e, zk_zs_Ref_pathOf_J109 e]
theorem zk_zs_Ref_pathOf_L42 {h k : zx_H} (e : zm_sf h k) : zs_Ref_pathOf_L42 k = zs_Ref_pathOf_L42 h := by
  unfold zs_Ref_pathOf_L42
  rw [zk_zs_Ref_pathOf_L42_body e]
theorem zk_zs_Ref_pathOf_J39 {h k : zx_H} (e : zm_sf h k) : zs_Ref_pathOf_J39 k = zs_Ref_pathOf_J39 h := by
  obtain ⟨a25, a26, a27, a28, a29, a30, a31, a32, a33, a34, a36, a37, a38, a39, b35, c1, c2, c8, c15⟩ := (show _ from e)
  have e : zm_sf h k := ⟨a25, a26, a27, a28, a29, a30, a31, a32, a33, a34, a36, a37, a38, a39, b35, c1, c2, c8, c15⟩
  funext x1 x2 x4 s0 s1 
  unfold zs_Ref_pathOf_J39
  simp only [a25, a26, a27, a28, a29, a30, a31, a32, a33, a34, a36, a37, a38, a39, b35, c1, c2, c8, c15, zk_zs_Ref_pathOf_L42 e]
theorem zk_zs_Ref_pathOf {h k : zx_H} (e : zm_sf h k) (a1 : Int32) (a2 : Int32) : zs_Ref_pathOf a1 a2 k = zs_Ref_pathOf a1 a2 h := by
  obtain ⟨a25, a26, a27, a28, a29, a30, a31, a32, a33, a34, a36, a37, a38, a39, b35, c1, c2, c8, c15⟩ := (show _ from e)
  have e : zm_sf h k := ⟨a25, a26, a27, a28, a29, a30, a31, a32, a33, a34, a36, a37, a38, a39, b35, c1, c2, c8, c15⟩
  unfold zs_Ref_pathOf
  simp only [a25, a26, a27, a28, a29, a30, a31, a32, a33, a34, a36, a37, a38, a39, b35, c1, c2, c8, c15, zk_zs_Ref_firstRule e, zk_zs_Ref_inverseOf e, zk_zs_Ref_pathOf_J39 e]
theorem zk_zs_Ref_constantOf_J197 {h k : zx_H} (e : zm_sf h k) : zs_Ref_constantOf_J197 k = zs_Ref_constantOf_J197 h := by
  obtain ⟨a25, a26, a27, a28, a29, a30, a31, a32, a33, a34, a36, a37, a38, a39, b35, c1, c2, c8, c15⟩ := (show _ from e)
  have e : zm_sf h k := ⟨a25, a26, a27, a28, a29, a30, a31, a32, a33, a34, a36, a37, a38, a39, b35, c1, c2, c8, c15⟩
  funext k102 x1 x4 x5 x7 x8 x9 
  unfold zs_Ref_constantOf_J197
  simp only [a25, a26, a27, a28, a29, a30, a31, a32, a33, a34, a36, a37, a38, a39, b35, c1, c2, c8, c15]
theorem zk_zs_Ref_constantOf_J160 {h k : zx_H} (e : zm_sf h k) : zs_Ref_constantOf_J160 k = zs_Ref_constantOf_J160 h := by
  obtain ⟨a25, a26, a27, a28, a29, a30, a31, a32, a33, a34, a36, a37, a38, a39, b35, c1, c2, c8, c15⟩ := (show _ from e)
  have e : zm_sf h k := ⟨a25, a26, a27, a28, a29, a30, a31, a32, a33, a34, a36, a37, a38, a39, b35, c1, c2, c8, c15⟩
  funext k102 x1 x4 x5 x7 x9 s0 
  unfold zs_Ref_constantOf_J160
  simp only [a25, a26, a27, a28, a29, a30, a31, a32, a33, a34, a36, a37, a38, a39, b35, c1, c2, c8, c15, zk_zs_Ref_placeOf e, zk_zs_Ref_constantOf_J197 e]
theorem zk_zs_Ref_constantOf_J159 {h k : zx_H} (e : zm_sf h k) : zs_Ref_constantOf_J159 k = zs_Ref_constantOf_J159 h := by
  obtain ⟨a25, a26, a27, a28, a29, a30, a31, a32, a33, a34, a36, a37, a38, a39, b35, c1, c2, c8, c15⟩ := (show _ from e)
  have e : zm_sf h k := ⟨a25, a26, a27, a28, a29, a30, a31, a32, a33, a34, a36, a37, a38, a39, b35, c1, c2, c8, c15⟩
  funext k102 x1 x4 x5 x7 x9 
  unfold zs_Ref_constantOf_J159
  simp only [a25, a26, a27, a28, a29, a30, a31, a32, a33, a34, a36, a37, a38, a39, b35, c1, c2, c8, c15, zk_zs_Ref_constantOf_J160 e]
theorem zk_zs_Ref_constantOf_J203 {h k : zx_H} (e : zm_sf h k) : zs_Ref_constantOf_J203 k = zs_Ref_constantOf_J203 h := by
  obtain ⟨a25, a26, a27, a28, a29, a30, a31, a32, a33, a34, a36, a37, a38, a39, b35, c1, c2, c8, c15⟩ := (show _ from e)
  have e : zm_sf h k := ⟨a25, a26, a27, a28, a29, a30, a31, a32, a33, a34, a36, a37, a38, a39, b35, c1, c2, c8, c15⟩
  funext x1 x4 x5 
  unfold zs_Ref_constantOf_J203
  simp only [a25, a26, a27, a28, a29, a30, a31, a32, a33, a34, a36, a37, a38, a39, b35, c1, c2, c8, c15, zk_zs_Ref_placeOf e, zk_zs_Ref_latest e]
theorem zk_zs_Ref_constantOf_L102_body {h k : zx_H} (e : zm_sf h k) : zs_Ref_constantOf_L102_body k = zs_Ref_constantOf_L102_body h := by
  obtain ⟨a25, a26, a27, a28, a29, a30, a31, a32, a33, a34, a36, a37, a38, a39, b35, c1, c2, c8, c15⟩ := (show _ from e)
  have e : zm_sf h k := ⟨a25, a26, a27, a28, a29, a30, a31, a32, a33, a34, a36, a37, a38, a39, b35, c1, c2, c8, c15⟩
  funext k102 x1 x4 x5 x7 x8 x9 
  unfold zs_Ref_constantOf_L102_body
  simp only [a25, a26, a27, a28, a29, a30, a31, a32, a33, a34, a36, a37, a38, a39, b35, c1, c2, c8, c15, zk_zs_Ref_constantOf_J203 e, zk_zs_Ref_constantOf_J160 e, zk_zs_Ref_constantOf_J159 e]
theorem zk_zs_Ref_constantOf_L102 {h k : zx_H} (e : zm_sf h k) : zs_Ref_constantOf_L102 k = zs_Ref_constantOf_L102 h := by
  unfold zs_Ref_constantOf_L102
  rw [zk_zs_Ref_constantOf_L102_body e]
theorem zk_zs_Ref_constantOf_J99 {h k : zx_H} (e : zm_sf h k) : zs_Ref_constantOf_J99 k = zs_Ref_constantOf_J99 h := by
  obtain ⟨a25, a26, a27, a28, a29, a30, a31, a32, a33, a34, a36, a37, a38, a39, b35, c1, c2, c8, c15⟩ := (show _ from e)
  have e : zm_sf h k := ⟨a25, a26, a27, a28, a29, a30, a31, a32, a33, a34, a36, a37, a38, a39, b35, c1, c2, c8, c15⟩
  funext x1 x4 x5 x7 x8 s0 s1 
  unfold zs_Ref_constantOf_J99
  simp only [a25, a26, a27, a28, a29, a30, a31, a32, a33, a34, a36, a37, a38, a39, b35, c1, c2, c8, c15, zk_zs_Ref_constantOf_L102 e]
theorem zk_zs_Ref_constantOf {h k : zx_H} (e : zm_sf h k) (a1 : Int32) (a2 : Int32) : zs_Ref_constantOf a1 a2 k = zs_Ref_constantOf a1 a2 h := by
  obtain ⟨a25, a26, a27, a28, a29, a30, a31, a32, a33, a34, a36, a37, a38, a39, b35, c1, c2, c8, c15⟩ := (show _ from e)
  have e : zm_sf h k := ⟨a25, a26, a27, a28, a29, a30, a31, a32, a33, a34, a36, a37, a38, a39, b35, c1, c2, c8, c15⟩
  unfold zs_Ref_constantOf
  simp only [a25, a26, a27, a28, a29, a30, a31, a32, a33, a34, a36, a37, a38, a39, b35, c1, c2, c8, c15, zk_zs_Ref_firstRule e, zk_zs_Ref_inverseOf e, zk_zs_Ref_constantOf_J99 e, zk_zs_Ref_placeOf e]
theorem zk_zs_Ref_converts_J41 {h k : zx_H} (e : zm_sf h k) : zs_Ref_converts_J41 k = zs_Ref_converts_J41 h := by
  obtain ⟨a25, a26, a27, a28, a29, a30, a31, a32, a33, a34, a36, a37, a38, a39, b35, c1, c2, c8, c15⟩ := (show _ from e)
  have e : zm_sf h k := ⟨a25, a26, a27, a28, a29, a30, a31, a32, a33, a34, a36, a37, a38, a39, b35, c1, c2, c8, c15⟩
  unfold zs_Ref_converts_J41
  simp only [a25, a26, a27, a28, a29, a30, a31, a32, a33, a34, a36, a37, a38, a39, b35, c1, c2, c8, c15]
theorem zk_zs_Ref_converts_J45 {h k : zx_H} (e : zm_sf h k) : zs_Ref_converts_J45 k = zs_Ref_converts_J45 h := by
  obtain ⟨a25, a26, a27, a28, a29, a30, a31, a32, a33, a34, a36, a37, a38, a39, b35, c1, c2, c8, c15⟩ := (show _ from e)
  have e : zm_sf h k := ⟨a25, a26, a27, a28, a29, a30, a31, a32, a33, a34, a36, a37, a38, a39, b35, c1, c2, c8, c15⟩
  unfold zs_Ref_converts_J45
  simp only [a25, a26, a27, a28, a29, a30, a31, a32, a33, a34, a36, a37, a38, a39, b35, c1, c2, c8, c15]
theorem zk_zs_Ref_converts_J84 {h k : zx_H} (e : zm_sf h k) : zs_Ref_converts_J84 k = zs_Ref_converts_J84 h := by
  obtain ⟨a25, a26, a27, a28, a29, a30, a31, a32, a33, a34, a36, a37, a38, a39, b35, c1, c2, c8, c15⟩ := (show _ from e)
  have e : zm_sf h k := ⟨a25, a26, a27, a28, a29, a30, a31, a32, a33, a34, a36, a37, a38, a39, b35, c1, c2, c8, c15⟩
  funext s0 
  unfold zs_Ref_converts_J84
  simp only [a25, a26, a27, a28, a29, a30, a31, a32, a33, a34, a36, a37, a38, a39, b35, c1, c2, c8, c15, zk_zs_Ref_kindOf e]
theorem zk_zs_Ref_converts_J73 {h k : zx_H} (e : zm_sf h k) : zs_Ref_converts_J73 k = zs_Ref_converts_J73 h := by
  obtain ⟨a25, a26, a27, a28, a29, a30, a31, a32, a33, a34, a36, a37, a38, a39, b35, c1, c2, c8, c15⟩ := (show _ from e)
  have e : zm_sf h k := ⟨a25, a26, a27, a28, a29, a30, a31, a32, a33, a34, a36, a37, a38, a39, b35, c1, c2, c8, c15⟩
  funext x1 x2 
  unfold zs_Ref_converts_J73
  simp only [a25, a26, a27, a28, a29, a30, a31, a32, a33, a34, a36, a37, a38, a39, b35, c1, c2, c8, c15, zk_zs_Ref_converts_J84 e]
theorem zk_zs_Ref_converts_J128 {h k : zx_H} (e : zm_sf h k) : zs_Ref_converts_J128 k = zs_Ref_converts_J128 h := by
  obtain ⟨a25, a26, a27, a28, a29, a30, a31, a32, a33, a34, a36, a37, a38, a39, b35, c1, c2, c8, c15⟩ := (show _ from e)
  have e : zm_sf h k := ⟨a25, a26, a27, a28, a29, a30, a31, a32, a33, a34, a36, a37, a38, a39, b35, c1, c2, c8, c15⟩
  unfold zs_Ref_converts_J128
  simp only [a25, a26, a27, a28, a29, a30, a31, a32, a33, a34, a36, a37, a38, a39, b35, c1, c2, c8, c15]
theorem zk_zs_Ref_converts_J132 {h k : zx_H} (e : zm_sf h k) : zs_Ref_converts_J132 k = zs_Ref_converts_J132 h := by
  obtain ⟨a25, a26, a27, a28, a29, a30, a31, a32, a33, a34, a36, a37, a38, a39, b35, c1, c2, c8, c15⟩ := (show _ from e)
  have e : zm_sf h k := ⟨a25, a26, a27, a28, a29, a30, a31, a32, a33, a34, a36, a37, a38, a39, b35, c1, c2, c8, c15⟩
  unfold zs_Ref_converts_J132
  simp only [a25, a26, a27, a28, a29, a30, a31, a32, a33, a34, a36, a37, a38, a39, b35, c1, c2, c8, c15]
theorem zk_zs_Ref_converts_J113 {h k : zx_H} (e : zm_sf h k) : zs_Ref_converts_J113 k = zs_Ref_converts_J113 h := by
  obtain ⟨a25, a26, a27, a28, a29, a30, a31, a32, a33, a34, a36, a37, a38, a39, b35, c1, c2, c8, c15⟩ := (show _ from e)
  have e : zm_sf h k := ⟨a25, a26, a27, a28, a29, a30, a31, a32, a33, a34, a36, a37, a38, a39, b35, c1, c2, c8, c15⟩
  funext x1 x2 
  unfold zs_Ref_converts_J113
  simp only [a25, a26, a27, a28, a29, a30, a31, a32, a33, a34, a36, a37, a38, a39, b35, c1, c2, c8, c15, zk_zs_Ref_isSort e, zk_zs_Ref_converts_J128 e, zk_zs_Ref_converts_J132 e]
theorem zk_zs_Ref_converts_J98 {h k : zx_H} (e : zm_sf h k) : zs_Ref_converts_J98 k = zs_Ref_converts_J98 h := by
  obtain ⟨a25, a26, a27, a28, a29, a30, a31, a32, a33, a34, a36, a37, a38, a39, b35, c1, c2, c8, c15⟩ := (show _ from e)
  have e : zm_sf h k := ⟨a25, a26, a27, a28, a29, a30, a31, a32, a33, a34, a36, a37, a38, a39, b35, c1, c2, c8, c15⟩
  funext x1 x2 
  unfold zs_Ref_converts_J98
  simp only [a25, a26, a27, a28, a29, a30, a31, a32, a33, a34, a36, a37, a38, a39, b35, c1, c2, c8, c15, zk_zs_Ref_isSort e, zk_zs_Ref_converts_J128 e, zk_zs_Ref_converts_J113 e]
theorem zk_zs_Ref_converts_J60 {h k : zx_H} (e : zm_sf h k) : zs_Ref_converts_J60 k = zs_Ref_converts_J60 h := by
  obtain ⟨a25, a26, a27, a28, a29, a30, a31, a32, a33, a34, a36, a37, a38, a39, b35, c1, c2, c8, c15⟩ := (show _ from e)
  have e : zm_sf h k := ⟨a25, a26, a27, a28, a29, a30, a31, a32, a33, a34, a36, a37, a38, a39, b35, c1, c2, c8, c15⟩
  funext x1 x2 
  unfold zs_Ref_converts_J60
  simp only [a25, a26, a27, a28, a29, a30, a31, a32, a33, a34, a36, a37, a38, a39, b35, c1, c2, c8, c15, zk_zs_Ref_isAmount e, zk_zs_Ref_converts_J73 e, zk_zs_Ref_converts_J98 e]
theorem zk_zs_Ref_converts_J47 {h k : zx_H} (e : zm_sf h k) : zs_Ref_converts_J47 k = zs_Ref_converts_J47 h := by
  obtain ⟨a25, a26, a27, a28, a29, a30, a31, a32, a33, a34, a36, a37, a38, a39, b35, c1, c2, c8, c15⟩ := (show _ from e)
  have e : zm_sf h k := ⟨a25, a26, a27, a28, a29, a30, a31, a32, a33, a34, a36, a37, a38, a39, b35, c1, c2, c8, c15⟩
  funext x1 x2 
  unfold zs_Ref_converts_J47
  simp only [a25, a26, a27, a28, a29, a30, a31, a32, a33, a34, a36, a37, a38, a39, b35, c1, c2, c8, c15, zk_zs_Ref_isAmount e, zk_zs_Ref_converts_J73 e, zk_zs_Ref_converts_J60 e]
theorem zk_zs_Ref_converts {h k : zx_H} (e : zm_sf h k) (a1 : Int32) (a2 : Int32) : zs_Ref_converts a1 a2 k = zs_Ref_converts a1 a2 h := by
  obtain ⟨a25, a26, a27, a28, a29, a30, a31, a32, a33, a34, a36, a37, a38, a39, b35, c1, c2, c8, c15⟩ := (show _ from e)
  have e : zm_sf h k := ⟨a25, a26, a27, a28, a29, a30, a31, a32, a33, a34, a36, a37, a38, a39, b35, c1, c2, c8, c15⟩
  unfold zs_Ref_converts
  simp only [a25, a26, a27, a28, a29, a30, a31, a32, a33, a34, a36, a37, a38, a39, b35, c1, c2, c8, c15, zk_zs_Ref_isAmount e, zk_zs_Ref_kindOf e, zk_zs_Ref_converts_J41 e, zk_zs_Ref_converts_J45 e, zk_zs_Ref_converts_J47 e]
theorem zk_zs_Ref_functionOf_J111 {h k : zx_H} (e : zm_sf h k) : zs_Ref_functionOf_J111 k = zs_Ref_functionOf_J111 h := by
  obtain ⟨a25, a26, a27, a28, a29, a30, a31, a32, a33, a34, a36, a37, a38, a39, b35, c1, c2, c8, c15⟩ := (show _ from e)
  have e : zm_sf h k := ⟨a25, a26, a27, a28, a29, a30, a31, a32, a33, a34, a36, a37, a38, a39, b35, c1, c2, c8, c15⟩
  funext k6 x1 x2 x3 x5 s0 
  unfold zs_Ref_functionOf_J111
  simp only [a25, a26, a27, a28, a29, a30, a31, a32, a33, a34, a36, a37, a38, a39, b35, c1, c2, c8, c15]
theorem zk_zs_Ref_functionOf_J103 {h k : zx_H} (e : zm_sf h k) : zs_Ref_functionOf_J103 k = zs_Ref_functionOf_J103 h := by
  obtain ⟨a25, a26, a27, a28, a29, a30, a31, a32, a33, a34, a36, a37, a38, a39, b35, c1, c2, c8, c15⟩ := (show _ from e)
  have e : zm_sf h k := ⟨a25, a26, a27, a28, a29, a30, a31, a32, a33, a34, a36, a37, a38, a39, b35, c1, c2, c8, c15⟩
  funext k6 x1 x2 x3 x5 s0 
  unfold zs_Ref_functionOf_J103
  simp only [a25, a26, a27, a28, a29, a30, a31, a32, a33, a34, a36, a37, a38, a39, b35, c1, c2, c8, c15, zk_zs_Ref_functionOf_J111 e]
theorem zk_zs_Ref_functionOf_J73 {h k : zx_H} (e : zm_sf h k) : zs_Ref_functionOf_J73 k = zs_Ref_functionOf_J73 h := by
  obtain ⟨a25, a26, a27, a28, a29, a30, a31, a32, a33, a34, a36, a37, a38, a39, b35, c1, c2, c8, c15⟩ := (show _ from e)
  have e : zm_sf h k := ⟨a25, a26, a27, a28, a29, a30, a31, a32, a33, a34, a36, a37, a38, a39, b35, c1, c2, c8, c15⟩
  funext k6 x1 x2 x3 x4 x5 s0 
  unfold zs_Ref_functionOf_J73
  simp only [a25, a26, a27, a28, a29, a30, a31, a32, a33, a34, a36, a37, a38, a39, b35, c1, c2, c8, c15, zk_zs_Ref_functionOf_J103 e, zk_zs_Ref_functionOf_J111 e]
theorem zk_zs_Ref_functionOf_J68 {h k : zx_H} (e : zm_sf h k) : zs_Ref_functionOf_J68 k = zs_Ref_functionOf_J68 h := by
  obtain ⟨a25, a26, a27, a28, a29, a30, a31, a32, a33, a34, a36, a37, a38, a39, b35, c1, c2, c8, c15⟩ := (show _ from e)
  have e : zm_sf h k := ⟨a25, a26, a27, a28, a29, a30, a31, a32, a33, a34, a36, a37, a38, a39, b35, c1, c2, c8, c15⟩
  funext k6 x1 x2 x3 x4 x5 
  unfold zs_Ref_functionOf_J68
  simp only [a25, a26, a27, a28, a29, a30, a31, a32, a33, a34, a36, a37, a38, a39, b35, c1, c2, c8, c15, zk_zs_Ref_functionOf_J73 e]
theorem zk_zs_Ref_functionOf_J72 {h k : zx_H} (e : zm_sf h k) : zs_Ref_functionOf_J72 k = zs_Ref_functionOf_J72 h := by
  obtain ⟨a25, a26, a27, a28, a29, a30, a31, a32, a33, a34, a36, a37, a38, a39, b35, c1, c2, c8, c15⟩ := (show _ from e)
  have e : zm_sf h k := ⟨a25, a26, a27, a28, a29, a30, a31, a32, a33, a34, a36, a37, a38, a39, b35, c1, c2, c8, c15⟩
  funext k6 x1 x2 x3 x4 x5 
  unfold zs_Ref_functionOf_J72
  simp only [a25, a26, a27, a28, a29, a30, a31, a32, a33, a34, a36, a37, a38, a39, b35, c1, c2, c8, c15, zk_zs_Ref_functionOf_J73 e]
theorem zk_zs_Ref_functionOf_L6_body {h k : zx_H} (e : zm_sf h k) : zs_Ref_functionOf_L6_body k = zs_Ref_functionOf_L6_body h := by
  obtain ⟨a25, a26, a27, a28, a29, a30, a31, a32, a33, a34, a36, a37, a38, a39, b35, c1, c2, c8, c15⟩ := (show _ from e)
  have e : zm_sf h k := ⟨a25, a26, a27, a28, a29, a30, a31, a32, a33, a34, a36, a37, a38, a39, b35, c1, c2, c8, c15⟩
  funext k6 x1 x2 x3 x4 x5 
  unfold zs_Ref_functionOf_L6_body
  simp only [a25, a26, a27, a28, a29, a30, a31, a32, a33, a34, a36, a37, a38, a39, b35, c1, c2, c8, c15, zk_zs_Ref_isNamed e, zk_zs_Ref_functionOf_J72 e, zk_zs_Ref_converts e, zk_zs_Ref_functionOf_J68 e]
theorem zk_zs_Ref_functionOf_L6 {h k : zx_H} (e : zm_sf h k) : zs_Ref_functionOf_L6 k = zs_Ref_functionOf_L6 h := by
  unfold zs_Ref_functionOf_L6
  rw [zk_zs_Ref_functionOf_L6_body e]
theorem zk_zs_Ref_functionOf {h k : zx_H} (e : zm_sf h k) (a1 : Int32) (a2 : Int32) (a3 : Bool) : zs_Ref_functionOf a1 a2 a3 k = zs_Ref_functionOf a1 a2 a3 h := by
  obtain ⟨a25, a26, a27, a28, a29, a30, a31, a32, a33, a34, a36, a37, a38, a39, b35, c1, c2, c8, c15⟩ := (show _ from e)
  have e : zm_sf h k := ⟨a25, a26, a27, a28, a29, a30, a31, a32, a33, a34, a36, a37, a38, a39, b35, c1, c2, c8, c15⟩
  unfold zs_Ref_functionOf
  simp only [a25, a26, a27, a28, a29, a30, a31, a32, a33, a34, a36, a37, a38, a39, b35, c1, c2, c8, c15, zk_zs_Ref_functionOf_L6 e]
theorem zk_zs_Ref_one_J93 {h k : zx_H} (e : zm_sf h k) : zs_Ref_one_J93 k = zs_Ref_one_J93 h := by
  obtain ⟨a25, a26, a27, a28, a29, a30, a31, a32, a33, a34, a36, a37, a38, a39, b35, c1, c2, c8, c15⟩ := (show _ from e)
  have e : zm_sf h k := ⟨a25, a26, a27, a28, a29, a30, a31, a32, a33, a34, a36, a37, a38, a39, b35, c1, c2, c8, c15⟩
  funext k28 x1 x2 x5 s0 
  unfold zs_Ref_one_J93
  simp only [a25, a26, a27, a28, a29, a30, a31, a32, a33, a34, a36, a37, a38, a39, b35, c1, c2, c8, c15]
theorem zk_zs_Ref_one_J64 {h k : zx_H} (e : zm_sf h k) : zs_Ref_one_J64 k = zs_Ref_one_J64 h := by
  obtain ⟨a25, a26, a27, a28, a29, a30, a31, a32, a33, a34, a36, a37, a38, a39, b35, c1, c2, c8, c15⟩ := (show _ from e)
  have e : zm_sf h k := ⟨a25, a26, a27, a28, a29, a30, a31, a32, a33, a34, a36, a37, a38, a39, b35, c1, c2, c8, c15⟩
  funext k28 x1 x2 x4 x5 s0 
  unfold zs_Ref_one_J64
  simp only [a25, a26, a27, a28, a29, a30, a31, a32, a33, a34, a36, a37, a38, a39, b35, c1, c2, c8, c15, zk_zs_Ref_one_J93 e]
theorem zk_zs_Ref_one_J63 {h k : zx_H} (e : zm_sf h k) : zs_Ref_one_J63 k = zs_Ref_one_J63 h := by
  obtain ⟨a25, a26, a27, a28, a29, a30, a31, a32, a33, a34, a36, a37, a38, a39, b35, c1, c2, c8, c15⟩ := (show _ from e)
  have e : zm_sf h k := ⟨a25, a26, a27, a28, a29, a30, a31, a32, a33, a34, a36, a37, a38, a39, b35, c1, c2, c8, c15⟩
  funext k28 x1 x2 x4 x5 
  unfold zs_Ref_one_J63
  simp only [a25, a26, a27, a28, a29, a30, a31, a32, a33, a34, a36, a37, a38, a39, b35, c1, c2, c8, c15, zk_zs_Ref_one_J64 e]
theorem zk_zs_Ref_one_J162 {h k : zx_H} (e : zm_sf h k) : zs_Ref_one_J162 k = zs_Ref_one_J162 h := by
  obtain ⟨a25, a26, a27, a28, a29, a30, a31, a32, a33, a34, a36, a37, a38, a39, b35, c1, c2, c8, c15⟩ := (show _ from e)
  have e : zm_sf h k := ⟨a25, a26, a27, a28, a29, a30, a31, a32, a33, a34, a36, a37, a38, a39, b35, c1, c2, c8, c15⟩
  unfold zs_Ref_one_J162
  simp only [a25, a26, a27, a28, a29, a30, a31, a32, a33, a34, a36, a37, a38, a39, b35, c1, c2, c8, c15]
theorem zk_zs_Ref_one_L28_body {h k : zx_H} (e : zm_sf h k) : zs_Ref_one_L28_body k = zs_Ref_one_L28_body h := by
  obtain ⟨a25, a26, a27, a28, a29, a30, a31, a32, a33, a34, a36, a37, a38, a39, b35, c1, c2, c8, c15⟩ := (show _ from e)
  have e : zm_sf h k := ⟨a25, a26, a27, a28, a29, a30, a31, a32, a33, a34, a36, a37, a38, a39, b35, c1, c2, c8, c15⟩
  funext k28 x1 x2 x4 x5 
  unfold zs_Ref_one_L28_body
  simp only [a25, a26, a27, a28, a29, a30, a31, a32, a33, a34, a36, a37, a38, a39, b35, c1, c2, c8, c15, zk_zs_Ref_converts e, zk_zs_Ref_functionOf e, zk_zs_Ref_one_J162 e, zk_zs_Ref_one_J64 e, zk_zs_Ref_one_J63 e]
theorem zk_zs_Ref_one_L28 {h k : zx_H} (e : zm_sf h k) : zs_Ref_one_L28 k = zs_Ref_one_L28 h := by
  unfold zs_Ref_one_L28
  rw [zk_zs_Ref_one_L28_body e]
theorem zk_zs_Ref_one {h k : zx_H} (e : zm_sf h k) (a1 : Int32) (a2 : Int32) : zs_Ref_one a1 a2 k = zs_Ref_one a1 a2 h := by
  obtain ⟨a25, a26, a27, a28, a29, a30, a31, a32, a33, a34, a36, a37, a38, a39, b35, c1, c2, c8, c15⟩ := (show _ from e)
  have e : zm_sf h k := ⟨a25, a26, a27, a28, a29, a30, a31, a32, a33, a34, a36, a37, a38, a39, b35, c1, c2, c8, c15⟩
  unfold zs_Ref_one
  simp only [a25, a26, a27, a28, a29, a30, a31, a32, a33, a34, a36, a37, a38, a39, b35, c1, c2, c8, c15, zk_zs_Ref_functionOf e, zk_zs_Ref_one_L28 e]
theorem zk_zs_Ref_how_L18_body {h k : zx_H} (e : zm_sf h k) : zs_Ref_how_L18_body k = zs_Ref_how_L18_body h := by
  obtain ⟨a25, a26, a27, a28, a29, a30, a31, a32, a33, a34, a36, a37, a38, a39, b35, c1, c2, c8, c15⟩ := (show _ from e)
  have e : zm_sf h k := ⟨a25, a26, a27, a28, a29, a30, a31, a32, a33, a34, a36, a37, a38, a39, b35, c1, c2, c8, c15⟩
  funext k18 x3 x4 x5 x6 
  unfold zs_Ref_how_L18_body
  simp only [a25, a26, a27, a28, a29, a30, a31, a32, a33, a34, a36, a37, a38, a39, b35, c1, c2, c8, c15, zk_zs_Ref_one e]
theorem zk_zs_Ref_how_L18 {h k : zx_H} (e : zm_sf h k) : zs_Ref_how_L18 k = zs_Ref_how_L18 h := by
  unfold zs_Ref_how_L18
  rw [zk_zs_Ref_how_L18_body e]
theorem zk_zs_Ref_how {h k : zx_H} (e : zm_sf h k) (a1 : Int32) (a2 : Int32) : zs_Ref_how a1 a2 k = zs_Ref_how a1 a2 h := by
  obtain ⟨a25, a26, a27, a28, a29, a30, a31, a32, a33, a34, a36, a37, a38, a39, b35, c1, c2, c8, c15⟩ := (show _ from e)
  have e : zm_sf h k := ⟨a25, a26, a27, a28, a29, a30, a31, a32, a33, a34, a36, a37, a38, a39, b35, c1, c2, c8, c15⟩
  unfold zs_Ref_how
  simp only [a25, a26, a27, a28, a29, a30, a31, a32, a33, a34, a36, a37, a38, a39, b35, c1, c2, c8, c15, zk_zs_Ref_one e, zk_zs_Ref_how_L18 e]
theorem zk_zs_Ref_empty {h k : zx_H} (e : zm_sf h k) (a1 : Int32) : zs_Ref_empty a1 k = zs_Ref_empty a1 h := by
  obtain ⟨a25, a26, a27, a28, a29, a30, a31, a32, a33, a34, a36, a37, a38, a39, b35, c1, c2, c8, c15⟩ := (show _ from e)
  have e : zm_sf h k := ⟨a25, a26, a27, a28, a29, a30, a31, a32, a33, a34, a36, a37, a38, a39, b35, c1, c2, c8, c15⟩
  unfold zs_Ref_empty
  simp only [a25, a26, a27, a28, a29, a30, a31, a32, a33, a34, a36, a37, a38, a39, b35, c1, c2, c8, c15]
theorem zk_zs_Ref_isNull_J21 {h k : zx_H} (e : zm_sf h k) : zs_Ref_isNull_J21 k = zs_Ref_isNull_J21 h := by
  obtain ⟨a25, a26, a27, a28, a29, a30, a31, a32, a33, a34, a36, a37, a38, a39, b35, c1, c2, c8, c15⟩ := (show _ from e)
  have e : zm_sf h k := ⟨a25, a26, a27, a28, a29, a30, a31, a32, a33, a34, a36, a37, a38, a39, b35, c1, c2, c8, c15⟩
  unfold zs_Ref_isNull_J21
  simp only [a25, a26, a27, a28, a29, a30, a31, a32, a33, a34, a36, a37, a38, a39, b35, c1, c2, c8, c15]
theorem zk_zs_Ref_isNull {h k : zx_H} (e : zm_sf h k) (a1 : Int32) (a2 : Int64) : zs_Ref_isNull a1 a2 k = zs_Ref_isNull a1 a2 h := by
  obtain ⟨a25, a26, a27, a28, a29, a30, a31, a32, a33, a34, a36, a37, a38, a39, b35, c1, c2, c8, c15⟩ := (show _ from e)
  have e : zm_sf h k := ⟨a25, a26, a27, a28, a29, a30, a31, a32, a33, a34, a36, a37, a38, a39, b35, c1, c2, c8, c15⟩
  unfold zs_Ref_isNull
  simp only [a25, a26, a27, a28, a29, a30, a31, a32, a33, a34, a36, a37, a38, a39, b35, c1, c2, c8, c15, zk_zs_Ref_isNull_J21 e]
