def f_X6_in (σ : Mm) (p0 : Int32) (p1 : Int32) (p2 : Int32) : Option (Mm × Int32) :=
  (if p0 < p1 then some (σ, 0) else (if p2 < p0 then some (σ, 0) else some (σ, 1)))
set_option maxHeartbeats 4000000 in
set_option maxRecDepth 100000 in
theorem w_X6_in {K : Kx} (C : CxM K cX6_in RX6 3 0 (some .boolean)) (σ : Mm) (p0 : Int32) (p1 : Int32) (p2 : Int32) (hf : Sat (f_X6_in σ p0 p1 p2) (fun o => kRt K (some (.int o.2)) o.1)) : Gj K σ 0 [(0, .int p0), (1, .int p1), (2, .int p2)] [] := by
  unfold f_X6_in at hf
  have B := C.1
  refine g_iload_n B dX6_in_0 rfl 0 rfl ?_
  refine g_iload_n B dX6_in_1 rfl 1 rfl ?_
  refine g_icmp_lt (tgt := 14) B dX6_in_2 (by decide) (fun c1 => ?_) (fun c1 => ?_)
  · have hf := sat_t hf c1
    refine g_iconst (v := 0) B dX6_in_14 (by decide) ?_
    have hf := sat_some hf
    exact g_iret B rfl rfl dX6_in_15 hf
  · have hf := sat_f hf c1
    refine g_iload_n B dX6_in_5 rfl 0 rfl ?_
    refine g_iload_n B dX6_in_6 rfl 2 rfl ?_
    refine g_icmp_gt (tgt := 14) B dX6_in_7 (by decide) (fun c2 => ?_) (fun c2 => ?_)
    · have hf := sat_t hf c2
      refine g_iconst (v := 0) B dX6_in_14 (by decide) ?_
      have hf := sat_some hf
      exact g_iret B rfl rfl dX6_in_15 hf
    · have hf := sat_f hf c2
      refine g_iconst (v := 1) B dX6_in_10 (by decide) ?_
      refine g_goto (tgt := 15) B dX6_in_11 (by decide) ?_
      have hf := sat_some hf
      exact g_iret B rfl rfl dX6_in_15 hf
theorem c_X6_in (l : Launch) (D : va_G) (Ad : Nat → Nat) (cI : ClassId) {σ : Mm} {p0 : Int32} {p1 : Int32} {p2 : Int32} {τ : Mm} {r : Int32} (h : f_X6_in σ p0 p1 p2 = some (τ, r)) : CtI l D (tysM cI) (wdM Ad cI) StM yX6_in cX6_in 3 .boolean 0 σ [.int p0, .int p1, .int p2] (τ, r) := by
  refine metI (Ad := Ad) (cI := cI) (cP := cI) (cII := cI) (by decide) (Nat.le_of_ble_eq_true rfl) (wdG_ok _ _ _) stOK_M rfl (fun K C G hR => ?_)
  exact w_X6_in (cM_of C G) σ p0 p1 p2 ⟨_, h, by rw [hR]; exact ⟨rfl, rfl⟩⟩
theorem ck_X6_in {K : Kx} {cc : ByteArray} {own : String} {nL d : Nat} {rty : Option FieldType} (C : CxM K cc own nL d rty) {σ : Mm} {p0 : Int32} {p1 : Int32} {p2 : Int32} {τ : Mm} {r : Int32} (h : f_X6_in σ p0 p1 p2 = some (τ, r)) : CtI (kl K) (kD K) (ktys K) (kwf K) (kSt K) yX6_in cX6_in 3 .boolean 0 σ [.int p0, .int p1, .int p2] (τ, r) := cM_eq C (P := fun l D tys wf St => CtI l D tys wf St yX6_in cX6_in 3 .boolean 0 σ [.int p0, .int p1, .int p2] (τ, r)) (c_X6_in _ _ _ _ h)
def f_X6_tune (σ : Mm) (p1 : Int32) (p2 : Int32) : Option (Mm × Int32) :=
  bn1 (f_X6_in σ p1 0 3) (fun σ1 r1 => (if r1 = 0 then some (σ1, (-1)) else bn1 (f_X6_in σ1 p2 0 60) (fun σ3 r3 => (if r3 = 0 then some (σ3, (-1)) else chk (inb p1 4) (chk (inb p1 4) (nm (ms σ3 1 p1.toNatClampNeg p2) (fun σ6 => some (σ6, (σ3 1 p1.toNatClampNeg)))))))))
set_option maxHeartbeats 4000000 in
set_option maxRecDepth 100000 in
theorem w_X6_tune {K : Kx} (C : CxM K cX6_tune RX6 4 1 (some .int)) (σ : Mm) (p1 : Int32) (p2 : Int32) (hf : Sat (f_X6_tune σ p1 p2) (fun o => kRt K (some (.int o.2)) o.1)) : Gj K σ 0 [(0, .ref (kAd K 0)), (1, .int p1), (2, .int p2)] [] := by
  unfold f_X6_tune at hf
  have B := C.1
  refine g_iload_n B dX6_tune_0 rfl 1 rfl ?_
  refine g_iconst (v := 0) B dX6_tune_1 (by decide) ?_
  refine g_iconst (v := 3) B dX6_tune_2 (by decide) ?_
  obtain ⟨σ1, r1, h1, hf⟩ := sat_ca1 hf
  refine g_cSI (rest := []) B (ck_X6_in C h1) mo_X6_in wm_RX6_61 (by decide) rfl rfl (Nat.le_of_ble_eq_true rfl) dX6_tune_3 ?_
  refine g_if_eq (tgt := 19) B dX6_tune_6 (by decide) (fun c2 => ?_) (fun c2 => ?_)
  · have hf := sat_t hf c2
    refine g_iconst (v := (-1)) B dX6_tune_19 (by decide) ?_
    have hf := sat_some hf
    exact g_iret B rfl rfl dX6_tune_20 hf
  · have hf := sat_f hf c2
    refine g_iload_n B dX6_tune_9 rfl 2 rfl ?_
    refine g_iconst (v := 0) B dX6_tune_10 (by decide) ?_
    refine g_bipush (v := 60) B dX6_tune_11 (by decide) ?_
    obtain ⟨σ3, r3, h3, hf⟩ := sat_ca1 hf
    refine g_cSI (rest := []) B (ck_X6_in C h3) mo_X6_in wm_RX6_61 (by decide) rfl rfl (Nat.le_of_ble_eq_true rfl) dX6_tune_13 ?_
    refine g_if_ne (tgt := 21) B dX6_tune_16 (by decide) (fun c4 => ?_) (fun c4 => ?_)
    · have hf := sat_f hf c4
      refine g_aload_n B dX6_tune_21 rfl 0 rfl ?_
      refine m_get_open C wf_RX6_7 dX6_tune_22 ?_
      refine g_iload_n B dX6_tune_25 rfl 1 rfl ?_
      obtain ⟨h5, hf⟩ := sat_chk hf
      refine m_iald C 0 (by decide) rfl h5 dX6_tune_26 ?_
      refine g_istore_n B [(0, .ref (kAd K 0)), (1, .int p1), (2, .int p2), (3, .int ((σ3 1 p1.toNatClampNeg)))] dX6_tune_27 rfl (by decide) [1, 2, 3, 0] rfl ?_
      refine g_aload_n B dX6_tune_28 rfl 0 rfl ?_
      refine m_get_open C wf_RX6_7 dX6_tune_29 ?_
      refine g_iload_n B dX6_tune_32 rfl 1 rfl ?_
      refine g_iload_n B dX6_tune_33 rfl 2 rfl ?_
      obtain ⟨h6, hf⟩ := sat_chk hf
      obtain ⟨σ6, e6, hf⟩ := sat_nm hf
      refine m_iast C 0 (by decide) rfl h6 dX6_tune_34 (g_mem2 e6 ?_)
      refine g_iload_n B dX6_tune_35 rfl 3 rfl ?_
      have hf := sat_some hf
      exact g_iret B rfl rfl dX6_tune_36 hf
    · have hf := sat_t hf c4
      refine g_iconst (v := (-1)) B dX6_tune_19 (by decide) ?_
      have hf := sat_some hf
      exact g_iret B rfl rfl dX6_tune_20 hf
theorem c_X6_tune (l : Launch) (D : va_G) (Ad : Nat → Nat) (cI : ClassId) {σ : Mm} {p1 : Int32} {p2 : Int32} {τ : Mm} {r : Int32} (h : f_X6_tune σ p1 p2 = some (τ, r)) : CtI l D (tysM cI) (wdM Ad cI) StM yX6_tune cX6_tune 4 .int 1 σ [.ref (Ad 0), .int p1, .int p2] (τ, r) := by
  refine metI (Ad := Ad) (cI := cI) (cP := cI) (cII := cI) (by decide) (Nat.le_of_ble_eq_true rfl) (wdG_ok _ _ _) stOK_M rfl (fun K C G hR => ?_)
  have e : kAd K = Ad := G.2.2.2.2.2.1
  have C2 := cM_of C G
  have h9 := w_X6_tune C2 σ p1 p2 ⟨_, h, by rw [hR]; exact ⟨rfl, rfl⟩⟩
  rw [e] at h9
  exact h9
theorem ck_X6_tune {K : Kx} {cc : ByteArray} {own : String} {nL d : Nat} {rty : Option FieldType} (C : CxM K cc own nL d rty) {σ : Mm} {p1 : Int32} {p2 : Int32} {τ : Mm} {r : Int32} (h : f_X6_tune σ p1 p2 = some (τ, r)) : CtI (kl K) (kD K) (ktys K) (kwf K) (kSt K) yX6_tune cX6_tune 4 .int 1 σ [.ref (kAd K 0), .int p1, .int p2] (τ, r) := cM_eq C (P := fun l D tys wf St => CtI l D tys wf St yX6_tune cX6_tune 4 .int 1 σ [.ref (kAd K 0), .int p1, .int p2] (τ, r)) (c_X6_tune _ _ _ _ h)
def f_X6_has (σ : Mm) (p0 : Int32) (p1 : Int32) : Option (Mm × Int32) :=
  (if (p0 &&& p1) = 0 then some (σ, 0) else some (σ, 1))
set_option maxHeartbeats 4000000 in
set_option maxRecDepth 100000 in
theorem w_X6_has {K : Kx} (C : CxM K cX6_has RX6 2 0 (some .boolean)) (σ : Mm) (p0 : Int32) (p1 : Int32) (hf : Sat (f_X6_has σ p0 p1) (fun o => kRt K (some (.int o.2)) o.1)) : Gj K σ 0 [(0, .int p0), (1, .int p1)] [] := by
  unfold f_X6_has at hf
  have B := C.1
  refine g_iload_n B dX6_has_0 rfl 0 rfl ?_
  refine g_iload_n B dX6_has_1 rfl 1 rfl ?_
  refine g_iand B dX6_has_2 ?_
  refine g_if_eq (tgt := 10) B dX6_has_3 (by decide) (fun c1 => ?_) (fun c1 => ?_)
  · have hf := sat_t hf c1
    refine g_iconst (v := 0) B dX6_has_10 (by decide) ?_
    have hf := sat_some hf
    exact g_iret B rfl rfl dX6_has_11 hf
  · have hf := sat_f hf c1
    refine g_iconst (v := 1) B dX6_has_6 (by decide) ?_
    refine g_goto (tgt := 11) B dX6_has_7 (by decide) ?_
    have hf := sat_some hf
    exact g_iret B rfl rfl dX6_has_11 hf
theorem c_X6_has (l : Launch) (D : va_G) (Ad : Nat → Nat) (cI : ClassId) {σ : Mm} {p0 : Int32} {p1 : Int32} {τ : Mm} {r : Int32} (h : f_X6_has σ p0 p1 = some (τ, r)) : CtI l D (tysM cI) (wdM Ad cI) StM yX6_has cX6_has 2 .boolean 0 σ [.int p0, .int p1] (τ, r) := by
  refine metI (Ad := Ad) (cI := cI) (cP := cI) (cII := cI) (by decide) (Nat.le_of_ble_eq_true rfl) (wdG_ok _ _ _) stOK_M rfl (fun K C G hR => ?_)
  exact w_X6_has (cM_of C G) σ p0 p1 ⟨_, h, by rw [hR]; exact ⟨rfl, rfl⟩⟩
theorem ck_X6_has {K : Kx} {cc : ByteArray} {own : String} {nL d : Nat} {rty : Option FieldType} (C : CxM K cc own nL d rty) {σ : Mm} {p0 : Int32} {p1 : Int32} {τ : Mm} {r : Int32} (h : f_X6_has σ p0 p1 = some (τ, r)) : CtI (kl K) (kD K) (ktys K) (kwf K) (kSt K) yX6_has cX6_has 2 .boolean 0 σ [.int p0, .int p1] (τ, r) := cM_eq C (P := fun l D tys wf St => CtI l D tys wf St yX6_has cX6_has 2 .boolean 0 σ [.int p0, .int p1] (τ, r)) (c_X6_has _ _ _ _ h)
def f_X6_areMarks (σ : Mm) (p0 : Int32) (p1 : Int32) : Option (Mm × Int32) :=
  bn1 (f_X6_has σ p1 2) (fun σ1 r1 => (if r1 = 0 then some (σ1, 1) else (if p0 ≤ 0 then some (σ1, 0) else bn1 (f_X6_has σ1 p1 1) (fun σ4 r4 => (if r4 = 0 then some (σ4, 1) else some (σ4, 0))))))
set_option maxHeartbeats 4000000 in
set_option maxRecDepth 100000 in
theorem w_X6_areMarks {K : Kx} (C : CxM K cX6_areMarks RX6 2 1 (some .boolean)) (σ : Mm) (p0 : Int32) (p1 : Int32) (hf : Sat (f_X6_areMarks σ p0 p1) (fun o => kRt K (some (.int o.2)) o.1)) : Gj K σ 0 [(0, .int p0), (1, .int p1)] [] := by
  unfold f_X6_areMarks at hf
  have B := C.1
  refine g_iload_n B dX6_areMarks_0 rfl 1 rfl ?_
  refine g_iconst (v := 2) B dX6_areMarks_1 (by decide) ?_
  obtain ⟨σ1, r1, h1, hf⟩ := sat_ca1 hf
  refine g_cSI (rest := []) B (ck_X6_has C h1) mo_X6_has wm_RX6_69 (by decide) rfl rfl (Nat.le_of_ble_eq_true rfl) dX6_areMarks_2 ?_
  refine g_if_eq (tgt := 20) B dX6_areMarks_5 (by decide) (fun c2 => ?_) (fun c2 => ?_)
  · have hf := sat_t hf c2
    refine g_iconst (v := 1) B dX6_areMarks_20 (by decide) ?_
    refine g_goto (tgt := 25) B dX6_areMarks_21 (by decide) ?_
    have hf := sat_some hf
    exact g_iret B rfl rfl dX6_areMarks_25 hf
  · have hf := sat_f hf c2
    refine g_iload_n B dX6_areMarks_8 rfl 0 rfl ?_
    refine g_if_le (tgt := 24) B dX6_areMarks_9 (by decide) (fun c3 => ?_) (fun c3 => ?_)
    · have hf := sat_t hf c3
      refine g_iconst (v := 0) B dX6_areMarks_24 (by decide) ?_
      have hf := sat_some hf
      exact g_iret B rfl rfl dX6_areMarks_25 hf
    · have hf := sat_f hf c3
      refine g_iload_n B dX6_areMarks_12 rfl 1 rfl ?_
      refine g_iconst (v := 1) B dX6_areMarks_13 (by decide) ?_
      obtain ⟨σ4, r4, h4, hf⟩ := sat_ca1 hf
      refine g_cSI (rest := []) B (ck_X6_has C h4) mo_X6_has wm_RX6_69 (by decide) rfl rfl (Nat.le_of_ble_eq_true rfl) dX6_areMarks_14 ?_
      refine g_if_ne (tgt := 24) B dX6_areMarks_17 (by decide) (fun c5 => ?_) (fun c5 => ?_)
      · have hf := sat_f hf c5
        refine g_iconst (v := 0) B dX6_areMarks_24 (by decide) ?_
        have hf := sat_some hf
        exact g_iret B rfl rfl dX6_areMarks_25 hf
      · have hf := sat_t hf c5
        refine g_iconst (v := 1) B dX6_areMarks_20 (by decide) ?_
        refine g_goto (tgt := 25) B dX6_areMarks_21 (by decide) ?_
        have hf := sat_some hf
        exact g_iret B rfl rfl dX6_areMarks_25 hf
theorem c_X6_areMarks (l : Launch) (D : va_G) (Ad : Nat → Nat) (cI : ClassId) {σ : Mm} {p0 : Int32} {p1 : Int32} {τ : Mm} {r : Int32} (h : f_X6_areMarks σ p0 p1 = some (τ, r)) : CtI l D (tysM cI) (wdM Ad cI) StM yX6_areMarks cX6_areMarks 2 .boolean 1 σ [.int p0, .int p1] (τ, r) := by
  refine metI (Ad := Ad) (cI := cI) (cP := cI) (cII := cI) (by decide) (Nat.le_of_ble_eq_true rfl) (wdG_ok _ _ _) stOK_M rfl (fun K C G hR => ?_)
  exact w_X6_areMarks (cM_of C G) σ p0 p1 ⟨_, h, by rw [hR]; exact ⟨rfl, rfl⟩⟩
theorem ck_X6_areMarks {K : Kx} {cc : ByteArray} {own : String} {nL d : Nat} {rty : Option FieldType} (C : CxM K cc own nL d rty) {σ : Mm} {p0 : Int32} {p1 : Int32} {τ : Mm} {r : Int32} (h : f_X6_areMarks σ p0 p1 = some (τ, r)) : CtI (kl K) (kD K) (ktys K) (kwf K) (kSt K) yX6_areMarks cX6_areMarks 2 .boolean 1 σ [.int p0, .int p1] (τ, r) := cM_eq C (P := fun l D tys wf St => CtI l D tys wf St yX6_areMarks cX6_areMarks 2 .boolean 1 σ [.int p0, .int p1] (τ, r)) (c_X6_areMarks _ _ _ _ h)
def f_X6_isPart (σ : Mm) (p0 : Int32) : Option (Mm × Int32) :=
  bn1 (f_X6_in σ p0 0 2) (fun σ1 r1 => chk (r1 &&& 1 == r1) (some (σ1, r1)))
set_option maxHeartbeats 4000000 in
set_option maxRecDepth 100000 in
theorem w_X6_isPart {K : Kx} (C : CxM K cX6_isPart RX6 1 1 (some .boolean)) (σ : Mm) (p0 : Int32) (hf : Sat (f_X6_isPart σ p0) (fun o => kRt K (some (.int o.2)) o.1)) : Gj K σ 0 [(0, .int p0)] [] := by
  unfold f_X6_isPart at hf
  have B := C.1
  refine g_iload_n B dX6_isPart_0 rfl 0 rfl ?_
  refine g_iconst (v := 0) B dX6_isPart_1 (by decide) ?_
  refine g_iconst (v := 2) B dX6_isPart_2 (by decide) ?_
  obtain ⟨σ1, r1, h1, hf⟩ := sat_ca1 hf
  refine g_cSI (rest := []) B (ck_X6_in C h1) mo_X6_in wm_RX6_61 (by decide) rfl rfl (Nat.le_of_ble_eq_true rfl) dX6_isPart_3 ?_
  obtain ⟨h2, hf⟩ := sat_chk hf
  have hf := sat_some hf
  exact g_iret B rfl (narrow_b h2) dX6_isPart_6 hf
theorem c_X6_isPart (l : Launch) (D : va_G) (Ad : Nat → Nat) (cI : ClassId) {σ : Mm} {p0 : Int32} {τ : Mm} {r : Int32} (h : f_X6_isPart σ p0 = some (τ, r)) : CtI l D (tysM cI) (wdM Ad cI) StM yX6_isPart cX6_isPart 1 .boolean 1 σ [.int p0] (τ, r) := by
  refine metI (Ad := Ad) (cI := cI) (cP := cI) (cII := cI) (by decide) (Nat.le_of_ble_eq_true rfl) (wdG_ok _ _ _) stOK_M rfl (fun K C G hR => ?_)
  exact w_X6_isPart (cM_of C G) σ p0 ⟨_, h, by rw [hR]; exact ⟨rfl, rfl⟩⟩
theorem ck_X6_isPart {K : Kx} {cc : ByteArray} {own : String} {nL d : Nat} {rty : Option FieldType} (C : CxM K cc own nL d rty) {σ : Mm} {p0 : Int32} {τ : Mm} {r : Int32} (h : f_X6_isPart σ p0 = some (τ, r)) : CtI (kl K) (kD K) (ktys K) (kwf K) (kSt K) yX6_isPart cX6_isPart 1 .boolean 1 σ [.int p0] (τ, r) := cM_eq C (P := fun l D tys wf St => CtI l D tys wf St yX6_isPart cX6_isPart 1 .boolean 1 σ [.int p0] (τ, r)) (c_X6_isPart _ _ _ _ h)
def f_X6_note (σ : Mm) (p1 : Int32) (p2 : Int32) (p3 : Int32) (p4 : Int32) : Option (Mm × Int32) :=
  bn1 (f_X6_isPart σ p1) (fun σ1 r1 => (if r1 = 0 then some (σ1, (-1)) else bn1 (f_X6_in σ1 p2 0 80) (fun σ3 r3 => (if r3 = 0 then some (σ3, (-1)) else bn1 (f_X6_in σ3 p3 1 16) (fun σ5 r5 => (if r5 = 0 then some (σ5, (-1)) else bn1 (f_X6_in σ5 p4 0 15) (fun σ7 r7 => (if r7 = 0 then some (σ7, (-1)) else chk (inb p1 3) (bn1 (f_X6_areMarks σ7 (σ7 2 p1.toNatClampNeg) p4) (fun σ10 r10 => (if r10 = 0 then some (σ10, (-4)) else chk (inb p1 3) ((if (σ10 2 p1.toNatClampNeg) = 12 then some (σ10, (-2)) else chk (inb p1 3) (chk (inb ((12 * p1) + (σ10 2 p1.toNatClampNeg)) 36) (nm (ms σ10 3 ((12 * p1) + (σ10 2 p1.toNatClampNeg)).toNatClampNeg p2) (fun σ15 => chk (inb ((12 * p1) + (σ10 2 p1.toNatClampNeg)) 36) (nm (ms σ15 4 ((12 * p1) + (σ10 2 p1.toNatClampNeg)).toNatClampNeg (-1)) (fun σ16 => chk (inb ((12 * p1) + (σ10 2 p1.toNatClampNeg)) 36) (nm (ms σ16 5 ((12 * p1) + (σ10 2 p1.toNatClampNeg)).toNatClampNeg p3) (fun σ17 => chk (inb ((12 * p1) + (σ10 2 p1.toNatClampNeg)) 36) (nm (ms σ17 6 ((12 * p1) + (σ10 2 p1.toNatClampNeg)).toNatClampNeg p4) (fun σ18 => chk (inb p1 3) (chk (inb p1 3) (nm (ms σ18 2 p1.toNatClampNeg ((σ18 2 p1.toNatClampNeg) + 1)) (fun σ20 => chk (inb p1 3) (some (σ20, ((σ20 2 p1.toNatClampNeg) - 1))))))))))))))))))))))))))))
set_option maxHeartbeats 4000000 in
set_option maxRecDepth 100000 in
theorem w_X6_note {K : Kx} (C : CxM K cX6_note RX6 6 2 (some .int)) (σ : Mm) (p1 : Int32) (p2 : Int32) (p3 : Int32) (p4 : Int32) (hf : Sat (f_X6_note σ p1 p2 p3 p4) (fun o => kRt K (some (.int o.2)) o.1)) : Gj K σ 0 [(0, .ref (kAd K 0)), (1, .int p1), (2, .int p2), (3, .int p3), (4, .int p4)] [] := by
  unfold f_X6_note at hf
  have B := C.1
  refine g_iload_n B dX6_note_0 rfl 1 rfl ?_
  obtain ⟨σ1, r1, h1, hf⟩ := sat_ca1 hf
  refine g_cSI (rest := []) B (ck_X6_isPart C h1) mo_X6_isPart wm_RX6_65 (by decide) rfl rfl (Nat.le_of_ble_eq_true rfl) dX6_note_1 ?_
  refine g_if_eq (tgt := 38) B dX6_note_4 (by decide) (fun c2 => ?_) (fun c2 => ?_)
  · have hf := sat_t hf c2
    refine g_iconst (v := (-1)) B dX6_note_38 (by decide) ?_
    have hf := sat_some hf
    exact g_iret B rfl rfl dX6_note_39 hf
  · have hf := sat_f hf c2
    refine g_iload_n B dX6_note_7 rfl 2 rfl ?_
    refine g_iconst (v := 0) B dX6_note_8 (by decide) ?_
    refine g_bipush (v := 80) B dX6_note_9 (by decide) ?_
    obtain ⟨σ3, r3, h3, hf⟩ := sat_ca1 hf
    refine g_cSI (rest := []) B (ck_X6_in C h3) mo_X6_in wm_RX6_61 (by decide) rfl rfl (Nat.le_of_ble_eq_true rfl) dX6_note_11 ?_
    refine g_if_eq (tgt := 38) B dX6_note_14 (by decide) (fun c4 => ?_) (fun c4 => ?_)
    · have hf := sat_t hf c4
      refine g_iconst (v := (-1)) B dX6_note_38 (by decide) ?_
      have hf := sat_some hf
      exact g_iret B rfl rfl dX6_note_39 hf
    · have hf := sat_f hf c4
      refine g_iload_n B dX6_note_17 rfl 3 rfl ?_
      refine g_iconst (v := 1) B dX6_note_18 (by decide) ?_
      refine g_bipush (v := 16) B dX6_note_19 (by decide) ?_
      obtain ⟨σ5, r5, h5, hf⟩ := sat_ca1 hf
      refine g_cSI (rest := []) B (ck_X6_in C h5) mo_X6_in wm_RX6_61 (by decide) rfl rfl (Nat.le_of_ble_eq_true rfl) dX6_note_21 ?_
      refine g_if_eq (tgt := 38) B dX6_note_24 (by decide) (fun c6 => ?_) (fun c6 => ?_)
      · have hf := sat_t hf c6
        refine g_iconst (v := (-1)) B dX6_note_38 (by decide) ?_
        have hf := sat_some hf
        exact g_iret B rfl rfl dX6_note_39 hf
      · have hf := sat_f hf c6
        refine g_iload B dX6_note_27 4 rfl ?_
        refine g_iconst (v := 0) B dX6_note_29 (by decide) ?_
        refine g_bipush (v := 15) B dX6_note_30 (by decide) ?_
        obtain ⟨σ7, r7, h7, hf⟩ := sat_ca1 hf
        refine g_cSI (rest := []) B (ck_X6_in C h7) mo_X6_in wm_RX6_61 (by decide) rfl rfl (Nat.le_of_ble_eq_true rfl) dX6_note_32 ?_
        refine g_if_ne (tgt := 40) B dX6_note_35 (by decide) (fun c8 => ?_) (fun c8 => ?_)
        · have hf := sat_f hf c8
          refine g_aload_n B dX6_note_40 rfl 0 rfl ?_
          refine m_get_notes C wf_RX6_13 dX6_note_41 ?_
          refine g_iload_n B dX6_note_44 rfl 1 rfl ?_
          obtain ⟨h9, hf⟩ := sat_chk hf
          refine m_iald C 1 (by decide) rfl h9 dX6_note_45 ?_
          refine g_iload B dX6_note_46 4 rfl ?_
          obtain ⟨σ10, r10, h10, hf⟩ := sat_ca1 hf
          refine g_cSI (rest := []) B (ck_X6_areMarks C h10) mo_X6_areMarks wm_RX6_73 (by decide) rfl rfl (Nat.le_of_ble_eq_true rfl) dX6_note_48 ?_
          refine g_if_ne (tgt := 57) B dX6_note_51 (by decide) (fun c11 => ?_) (fun c11 => ?_)
          · have hf := sat_f hf c11
            refine g_aload_n B dX6_note_57 rfl 0 rfl ?_
            refine m_get_notes C wf_RX6_13 dX6_note_58 ?_
            refine g_iload_n B dX6_note_61 rfl 1 rfl ?_
            obtain ⟨h12, hf⟩ := sat_chk hf
            refine m_iald C 1 (by decide) rfl h12 dX6_note_62 ?_
            refine g_bipush (v := 12) B dX6_note_63 (by decide) ?_
            refine g_icmp_ne (tgt := 71) B dX6_note_65 (by decide) (fun c13 => ?_) (fun c13 => ?_)
            · have hf := sat_f hf c13
              refine g_bipush (v := 12) B dX6_note_71 (by decide) ?_
              refine g_iload_n B dX6_note_73 rfl 1 rfl ?_
              refine g_imul B dX6_note_74 ?_
              refine g_aload_n B dX6_note_75 rfl 0 rfl ?_
              refine m_get_notes C wf_RX6_13 dX6_note_76 ?_
              refine g_iload_n B dX6_note_79 rfl 1 rfl ?_
              obtain ⟨h14, hf⟩ := sat_chk hf
              refine m_iald C 1 (by decide) rfl h14 dX6_note_80 ?_
              refine g_iadd B dX6_note_81 ?_
              refine g_istore B [(0, .ref (kAd K 0)), (1, .int p1), (2, .int p2), (3, .int p3), (4, .int p4), (5, .int (((12 * p1) + (σ10 2 p1.toNatClampNeg))))] dX6_note_82 (by decide) [1, 2, 3, 4, 5, 0] rfl ?_
              refine g_aload_n B dX6_note_84 rfl 0 rfl ?_
              refine m_get_pitch C wf_RX6_16 dX6_note_85 ?_
              refine g_iload B dX6_note_88 5 rfl ?_
              refine g_iload_n B dX6_note_90 rfl 2 rfl ?_
              obtain ⟨h15, hf⟩ := sat_chk hf
              obtain ⟨σ15, e15, hf⟩ := sat_nm hf
              refine m_iast C 2 (by decide) rfl h15 dX6_note_91 (g_mem2 e15 ?_)
              refine g_aload_n B dX6_note_92 rfl 0 rfl ?_
              refine m_get_second C wf_RX6_19 dX6_note_93 ?_
              refine g_iload B dX6_note_96 5 rfl ?_
              refine g_iconst (v := (-1)) B dX6_note_98 (by decide) ?_
              obtain ⟨h16, hf⟩ := sat_chk hf
              obtain ⟨σ16, e16, hf⟩ := sat_nm hf
              refine m_iast C 3 (by decide) rfl h16 dX6_note_99 (g_mem2 e16 ?_)
              refine g_aload_n B dX6_note_100 rfl 0 rfl ?_
              refine m_get_length C wf_RX6_22 dX6_note_101 ?_
              refine g_iload B dX6_note_104 5 rfl ?_
              refine g_iload_n B dX6_note_106 rfl 3 rfl ?_
              obtain ⟨h17, hf⟩ := sat_chk hf
              obtain ⟨σ17, e17, hf⟩ := sat_nm hf
              refine m_iast C 4 (by decide) rfl h17 dX6_note_107 (g_mem2 e17 ?_)
              refine g_aload_n B dX6_note_108 rfl 0 rfl ?_
              refine m_get_marks C wf_RX6_25 dX6_note_109 ?_
              refine g_iload B dX6_note_112 5 rfl ?_
              refine g_iload B dX6_note_114 4 rfl ?_
              obtain ⟨h18, hf⟩ := sat_chk hf
              obtain ⟨σ18, e18, hf⟩ := sat_nm hf
              refine m_iast C 5 (by decide) rfl h18 dX6_note_116 (g_mem2 e18 ?_)
              refine g_aload_n B dX6_note_117 rfl 0 rfl ?_
              refine m_get_notes C wf_RX6_13 dX6_note_118 ?_
              refine g_iload_n B dX6_note_121 rfl 1 rfl ?_
              refine g_dup2 B rfl rfl dX6_note_122 ?_
              obtain ⟨h19, hf⟩ := sat_chk hf
              refine m_iald C 1 (by decide) rfl h19 dX6_note_123 ?_
              refine g_iconst (v := 1) B dX6_note_124 (by decide) ?_
              refine g_iadd B dX6_note_125 ?_
              obtain ⟨h20, hf⟩ := sat_chk hf
              obtain ⟨σ20, e20, hf⟩ := sat_nm hf
              refine m_iast C 1 (by decide) rfl h20 dX6_note_126 (g_mem2 e20 ?_)
              refine g_aload_n B dX6_note_127 rfl 0 rfl ?_
              refine m_get_notes C wf_RX6_13 dX6_note_128 ?_
              refine g_iload_n B dX6_note_131 rfl 1 rfl ?_
              obtain ⟨h21, hf⟩ := sat_chk hf
              refine m_iald C 1 (by decide) rfl h21 dX6_note_132 ?_
              refine g_iconst (v := 1) B dX6_note_133 (by decide) ?_
              refine g_isub B dX6_note_134 ?_
              have hf := sat_some hf
              exact g_iret B rfl rfl dX6_note_135 hf
            · have hf := sat_t hf c13
              refine g_bipush (v := (-2)) B dX6_note_68 (by decide) ?_
              have hf := sat_some hf
              exact g_iret B rfl rfl dX6_note_70 hf
          · have hf := sat_t hf c11
            refine g_bipush (v := (-4)) B dX6_note_54 (by decide) ?_
            have hf := sat_some hf
            exact g_iret B rfl rfl dX6_note_56 hf
        · have hf := sat_t hf c8
          refine g_iconst (v := (-1)) B dX6_note_38 (by decide) ?_
          have hf := sat_some hf
          exact g_iret B rfl rfl dX6_note_39 hf
theorem c_X6_note (l : Launch) (D : va_G) (Ad : Nat → Nat) (cI : ClassId) {σ : Mm} {p1 : Int32} {p2 : Int32} {p3 : Int32} {p4 : Int32} {τ : Mm} {r : Int32} (h : f_X6_note σ p1 p2 p3 p4 = some (τ, r)) : CtI l D (tysM cI) (wdM Ad cI) StM yX6_note cX6_note 6 .int 2 σ [.ref (Ad 0), .int p1, .int p2, .int p3, .int p4] (τ, r) := by
  refine metI (Ad := Ad) (cI := cI) (cP := cI) (cII := cI) (by decide) (Nat.le_of_ble_eq_true rfl) (wdG_ok _ _ _) stOK_M rfl (fun K C G hR => ?_)
  have e : kAd K = Ad := G.2.2.2.2.2.1
  have C2 := cM_of C G
  have h9 := w_X6_note C2 σ p1 p2 p3 p4 ⟨_, h, by rw [hR]; exact ⟨rfl, rfl⟩⟩
  rw [e] at h9
  exact h9
theorem ck_X6_note {K : Kx} {cc : ByteArray} {own : String} {nL d : Nat} {rty : Option FieldType} (C : CxM K cc own nL d rty) {σ : Mm} {p1 : Int32} {p2 : Int32} {p3 : Int32} {p4 : Int32} {τ : Mm} {r : Int32} (h : f_X6_note σ p1 p2 p3 p4 = some (τ, r)) : CtI (kl K) (kD K) (ktys K) (kwf K) (kSt K) yX6_note cX6_note 6 .int 2 σ [.ref (kAd K 0), .int p1, .int p2, .int p3, .int p4] (τ, r) := cM_eq C (P := fun l D tys wf St => CtI l D tys wf St yX6_note cX6_note 6 .int 2 σ [.ref (kAd K 0), .int p1, .int p2, .int p3, .int p4] (τ, r)) (c_X6_note _ _ _ _ h)
def f_X6_isNote (σ : Mm) (p1 : Int32) (p2 : Int32) : Option (Mm × Int32) :=
  bn1 (f_X6_isPart σ p1) (fun σ1 r1 => (if r1 = 0 then some (σ1, 0) else chk (inb p1 3) (bn1 (f_X6_in σ1 p2 0 ((σ1 2 p1.toNatClampNeg) - 1)) (fun σ4 r4 => (if r4 = 0 then some (σ4, 0) else some (σ4, 1))))))
set_option maxHeartbeats 4000000 in
set_option maxRecDepth 100000 in
theorem w_X6_isNote {K : Kx} (C : CxM K cX6_isNote RX6 3 2 (some .boolean)) (σ : Mm) (p1 : Int32) (p2 : Int32) (hf : Sat (f_X6_isNote σ p1 p2) (fun o => kRt K (some (.int o.2)) o.1)) : Gj K σ 0 [(0, .ref (kAd K 0)), (1, .int p1), (2, .int p2)] [] := by
  unfold f_X6_isNote at hf
  have B := C.1
  refine g_iload_n B dX6_isNote_0 rfl 1 rfl ?_
  obtain ⟨σ1, r1, h1, hf⟩ := sat_ca1 hf
  refine g_cSI (rest := []) B (ck_X6_isPart C h1) mo_X6_isPart wm_RX6_65 (by decide) rfl rfl (Nat.le_of_ble_eq_true rfl) dX6_isNote_1 ?_
  refine g_if_eq (tgt := 27) B dX6_isNote_4 (by decide) (fun c2 => ?_) (fun c2 => ?_)
  · have hf := sat_t hf c2
    refine g_iconst (v := 0) B dX6_isNote_27 (by decide) ?_
    have hf := sat_some hf
    exact g_iret B rfl rfl dX6_isNote_28 hf
  · have hf := sat_f hf c2
    refine g_iload_n B dX6_isNote_7 rfl 2 rfl ?_
    refine g_iconst (v := 0) B dX6_isNote_8 (by decide) ?_
    refine g_aload_n B dX6_isNote_9 rfl 0 rfl ?_
    refine m_get_notes C wf_RX6_13 dX6_isNote_10 ?_
    refine g_iload_n B dX6_isNote_13 rfl 1 rfl ?_
    obtain ⟨h3, hf⟩ := sat_chk hf
    refine m_iald C 1 (by decide) rfl h3 dX6_isNote_14 ?_
    refine g_iconst (v := 1) B dX6_isNote_15 (by decide) ?_
    refine g_isub B dX6_isNote_16 ?_
    obtain ⟨σ4, r4, h4, hf⟩ := sat_ca1 hf
    refine g_cSI (rest := []) B (ck_X6_in C h4) mo_X6_in wm_RX6_61 (by decide) rfl rfl (Nat.le_of_ble_eq_true rfl) dX6_isNote_17 ?_
    refine g_if_eq (tgt := 27) B dX6_isNote_20 (by decide) (fun c5 => ?_) (fun c5 => ?_)
    · have hf := sat_t hf c5
      refine g_iconst (v := 0) B dX6_isNote_27 (by decide) ?_
      have hf := sat_some hf
      exact g_iret B rfl rfl dX6_isNote_28 hf
    · have hf := sat_f hf c5
      refine g_iconst (v := 1) B dX6_isNote_23 (by decide) ?_
      refine g_goto (tgt := 28) B dX6_isNote_24 (by decide) ?_
      have hf := sat_some hf
      exact g_iret B rfl rfl dX6_isNote_28 hf
theorem c_X6_isNote (l : Launch) (D : va_G) (Ad : Nat → Nat) (cI : ClassId) {σ : Mm} {p1 : Int32} {p2 : Int32} {τ : Mm} {r : Int32} (h : f_X6_isNote σ p1 p2 = some (τ, r)) : CtI l D (tysM cI) (wdM Ad cI) StM yX6_isNote cX6_isNote 3 .boolean 2 σ [.ref (Ad 0), .int p1, .int p2] (τ, r) := by
  refine metI (Ad := Ad) (cI := cI) (cP := cI) (cII := cI) (by decide) (Nat.le_of_ble_eq_true rfl) (wdG_ok _ _ _) stOK_M rfl (fun K C G hR => ?_)
  have e : kAd K = Ad := G.2.2.2.2.2.1
  have C2 := cM_of C G
  have h9 := w_X6_isNote C2 σ p1 p2 ⟨_, h, by rw [hR]; exact ⟨rfl, rfl⟩⟩
  rw [e] at h9
  exact h9
theorem ck_X6_isNote {K : Kx} {cc : ByteArray} {own : String} {nL d : Nat} {rty : Option FieldType} (C : CxM K cc own nL d rty) {σ : Mm} {p1 : Int32} {p2 : Int32} {τ : Mm} {r : Int32} (h : f_X6_isNote σ p1 p2 = some (τ, r)) : CtI (kl K) (kD K) (ktys K) (kwf K) (kSt K) yX6_isNote cX6_isNote 3 .boolean 2 σ [.ref (kAd K 0), .int p1, .int p2] (τ, r) := cM_eq C (P := fun l D tys wf St => CtI l D tys wf St yX6_isNote cX6_isNote 3 .boolean 2 σ [.ref (kAd K 0), .int p1, .int p2] (τ, r)) (c_X6_isNote _ _ _ _ h)
def f_X6_stop_t46 (p1 : Int32) (p2 : Int32) (p3 : Int32) (σ4 : Mm) : Option (Mm × Int32) :=
  chk (inb ((12 * p1) + p2) 36) (chk (inb ((12 * p1) + p2) 36) (nm (ms σ4 4 ((12 * p1) + p2).toNatClampNeg p3) (fun σ6 => some (σ6, (σ4 4 ((12 * p1) + p2).toNatClampNeg)))))
def f_X6_stop (σ : Mm) (p1 : Int32) (p2 : Int32) (p3 : Int32) : Option (Mm × Int32) :=
  bn1 (f_X6_isNote σ p1 p2) (fun σ1 r1 => (if r1 = 0 then some (σ1, (-9)) else (if p3 = (-1) then (f_X6_stop_t46 p1 p2 p3 σ1) else chk (inb ((12 * p1) + p2) 36) (bn1 (f_X6_in σ1 p3 ((σ1 3 ((12 * p1) + p2).toNatClampNeg) + 1) 80) (fun σ8 r8 => (if r8 = 0 then some (σ8, (-9)) else (f_X6_stop_t46 p1 p2 p3 σ8)))))))
set_option maxHeartbeats 4000000 in
set_option maxRecDepth 100000 in
theorem w_X6_stop {K : Kx} (C : CxM K cX6_stop RX6 6 3 (some .int)) (σ : Mm) (p1 : Int32) (p2 : Int32) (p3 : Int32) (hf : Sat (f_X6_stop σ p1 p2 p3) (fun o => kRt K (some (.int o.2)) o.1)) : Gj K σ 0 [(0, .ref (kAd K 0)), (1, .int p1), (2, .int p2), (3, .int p3)] [] := by
  unfold f_X6_stop at hf
  have B := C.1
  refine g_aload_n B dX6_stop_0 rfl 0 rfl ?_
  refine g_iload_n B dX6_stop_1 rfl 1 rfl ?_
  refine g_iload_n B dX6_stop_2 rfl 2 rfl ?_
  obtain ⟨σ1, r1, h1, hf⟩ := sat_ca1 hf
  refine g_cVI (rest := []) B (ck_X6_isNote C h1) mo_X6_isNote wm_RX6_76 (by decide) (cM_o C) rfl rfl rfl (Nat.le_of_ble_eq_true rfl) dX6_stop_3 ?_
  refine g_if_ne (tgt := 12) B dX6_stop_6 (by decide) (fun c2 => ?_) (fun c2 => ?_)
  · have hf := sat_f hf c2
    refine g_bipush (v := 12) B dX6_stop_12 (by decide) ?_
    refine g_iload_n B dX6_stop_14 rfl 1 rfl ?_
    refine g_imul B dX6_stop_15 ?_
    refine g_iload_n B dX6_stop_16 rfl 2 rfl ?_
    refine g_iadd B dX6_stop_17 ?_
    refine g_istore B [(0, .ref (kAd K 0)), (1, .int p1), (2, .int p2), (3, .int p3), (4, .int (((12 * p1) + p2)))] dX6_stop_18 (by decide) [1, 2, 3, 4, 0] rfl ?_
    refine g_iload_n B dX6_stop_20 rfl 3 rfl ?_
    refine g_iconst (v := (-1)) B dX6_stop_21 (by decide) ?_
    refine sat_P hf (fun P4 eP4 hf => ?_)
    have hk4 : ∀ (σ4 : Mm), Sat (f_X6_stop_t46 p1 p2 p3 σ4) P4 → Gj K σ4 46 [(0, .ref (kAd K 0)), (3, .int p3), (4, .int (((12 * p1) + p2)))] [] := by
      intro σ4 hf
      rw [eP4] at hf
      unfold f_X6_stop_t46 at hf
      refine g_aload_n B dX6_stop_46 rfl 0 rfl ?_
      refine m_get_second C wf_RX6_19 dX6_stop_47 ?_
      refine g_iload B dX6_stop_50 2 rfl ?_
      obtain ⟨h5, hf⟩ := sat_chk hf
      refine m_iald C 3 (by decide) rfl h5 dX6_stop_52 ?_
      refine g_istore B [(0, .ref (kAd K 0)), (3, .int p3), (4, .int (((12 * p1) + p2))), (5, .int ((σ4 4 ((12 * p1) + p2).toNatClampNeg)))] dX6_stop_53 (by decide) [1, 2, 3, 0] rfl ?_
      refine g_aload_n B dX6_stop_55 rfl 0 rfl ?_
      refine m_get_second C wf_RX6_19 dX6_stop_56 ?_
      refine g_iload B dX6_stop_59 2 rfl ?_
      refine g_iload_n B dX6_stop_61 rfl 1 rfl ?_
      obtain ⟨h6, hf⟩ := sat_chk hf
      obtain ⟨σ6, e6, hf⟩ := sat_nm hf
      refine m_iast C 3 (by decide) rfl h6 dX6_stop_62 (g_mem2 e6 ?_)
      refine g_iload B dX6_stop_63 3 rfl ?_
      have hf := sat_some hf
      exact g_iret B rfl rfl dX6_stop_65 hf
    subst eP4
    refine g_icmp_eq (tgt := 46) B dX6_stop_22 (by decide) (fun c3 => ?_) (fun c3 => ?_)
    · have hf := sat_t hf c3
      have hf := hk4 σ1 hf
      exact g_sub hf [0, 3, 4] rfl
    · have hf := sat_f hf c3
      refine g_iload_n B dX6_stop_25 rfl 3 rfl ?_
      refine g_aload_n B dX6_stop_26 rfl 0 rfl ?_
      refine m_get_pitch C wf_RX6_16 dX6_stop_27 ?_
      refine g_iload B dX6_stop_30 4 rfl ?_
      obtain ⟨h7, hf⟩ := sat_chk hf
      refine m_iald C 2 (by decide) rfl h7 dX6_stop_32 ?_
      refine g_iconst (v := 1) B dX6_stop_33 (by decide) ?_
      refine g_iadd B dX6_stop_34 ?_
      refine g_bipush (v := 80) B dX6_stop_35 (by decide) ?_
      obtain ⟨σ8, r8, h8, hf⟩ := sat_ca1 hf
      refine g_cSI (rest := []) B (ck_X6_in C h8) mo_X6_in wm_RX6_61 (by decide) rfl rfl (Nat.le_of_ble_eq_true rfl) dX6_stop_37 ?_
      refine g_if_ne (tgt := 46) B dX6_stop_40 (by decide) (fun c9 => ?_) (fun c9 => ?_)
      · have hf := sat_f hf c9
        have hf := hk4 σ8 hf
        exact g_sub hf [0, 3, 4] rfl
      · have hf := sat_t hf c9
        refine g_bipush (v := (-9)) B dX6_stop_43 (by decide) ?_
        have hf := sat_some hf
        exact g_iret B rfl rfl dX6_stop_45 hf
  · have hf := sat_t hf c2
    refine g_bipush (v := (-9)) B dX6_stop_9 (by decide) ?_
    have hf := sat_some hf
    exact g_iret B rfl rfl dX6_stop_11 hf
theorem c_X6_stop (l : Launch) (D : va_G) (Ad : Nat → Nat) (cI : ClassId) {σ : Mm} {p1 : Int32} {p2 : Int32} {p3 : Int32} {τ : Mm} {r : Int32} (h : f_X6_stop σ p1 p2 p3 = some (τ, r)) : CtI l D (tysM cI) (wdM Ad cI) StM yX6_stop cX6_stop 6 .int 3 σ [.ref (Ad 0), .int p1, .int p2, .int p3] (τ, r) := by
  refine metI (Ad := Ad) (cI := cI) (cP := cI) (cII := cI) (by decide) (Nat.le_of_ble_eq_true rfl) (wdG_ok _ _ _) stOK_M rfl (fun K C G hR => ?_)
  have e : kAd K = Ad := G.2.2.2.2.2.1
  have C2 := cM_of C G
  have h9 := w_X6_stop C2 σ p1 p2 p3 ⟨_, h, by rw [hR]; exact ⟨rfl, rfl⟩⟩
  rw [e] at h9
  exact h9
theorem ck_X6_stop {K : Kx} {cc : ByteArray} {own : String} {nL d : Nat} {rty : Option FieldType} (C : CxM K cc own nL d rty) {σ : Mm} {p1 : Int32} {p2 : Int32} {p3 : Int32} {τ : Mm} {r : Int32} (h : f_X6_stop σ p1 p2 p3 = some (τ, r)) : CtI (kl K) (kD K) (ktys K) (kwf K) (kSt K) yX6_stop cX6_stop 6 .int 3 σ [.ref (kAd K 0), .int p1, .int p2, .int p3] (τ, r) := cM_eq C (P := fun l D tys wf St => CtI l D tys wf St yX6_stop cX6_stop 6 .int 3 σ [.ref (kAd K 0), .int p1, .int p2, .int p3] (τ, r)) (c_X6_stop _ _ _ _ h)
def f_X6_mark (σ : Mm) (p1 : Int32) (p2 : Int32) (p3 : Int32) : Option (Mm × Int32) :=
  bn1 (f_X6_isNote σ p1 p2) (fun σ1 r1 => (if r1 = 0 then some (σ1, (-1)) else bn1 (f_X6_in σ1 p3 0 15) (fun σ3 r3 => (if r3 = 0 then some (σ3, (-1)) else bn1 (f_X6_areMarks σ3 p2 p3) (fun σ5 r5 => (if r5 = 0 then some (σ5, (-4)) else chk (inb ((12 * p1) + p2) 36) (chk (inb ((12 * p1) + p2) 36) (nm (ms σ5 6 ((12 * p1) + p2).toNatClampNeg p3) (fun σ8 => some (σ8, (σ5 6 ((12 * p1) + p2).toNatClampNeg)))))))))))
set_option maxHeartbeats 4000000 in
set_option maxRecDepth 100000 in
theorem w_X6_mark {K : Kx} (C : CxM K cX6_mark RX6 6 3 (some .int)) (σ : Mm) (p1 : Int32) (p2 : Int32) (p3 : Int32) (hf : Sat (f_X6_mark σ p1 p2 p3) (fun o => kRt K (some (.int o.2)) o.1)) : Gj K σ 0 [(0, .ref (kAd K 0)), (1, .int p1), (2, .int p2), (3, .int p3)] [] := by
  unfold f_X6_mark at hf
  have B := C.1
  refine g_aload_n B dX6_mark_0 rfl 0 rfl ?_
  refine g_iload_n B dX6_mark_1 rfl 1 rfl ?_
  refine g_iload_n B dX6_mark_2 rfl 2 rfl ?_
  obtain ⟨σ1, r1, h1, hf⟩ := sat_ca1 hf
  refine g_cVI (rest := []) B (ck_X6_isNote C h1) mo_X6_isNote wm_RX6_76 (by decide) (cM_o C) rfl rfl rfl (Nat.le_of_ble_eq_true rfl) dX6_mark_3 ?_
  refine g_if_eq (tgt := 19) B dX6_mark_6 (by decide) (fun c2 => ?_) (fun c2 => ?_)
  · have hf := sat_t hf c2
    refine g_iconst (v := (-1)) B dX6_mark_19 (by decide) ?_
    have hf := sat_some hf
    exact g_iret B rfl rfl dX6_mark_20 hf
  · have hf := sat_f hf c2
    refine g_iload_n B dX6_mark_9 rfl 3 rfl ?_
    refine g_iconst (v := 0) B dX6_mark_10 (by decide) ?_
    refine g_bipush (v := 15) B dX6_mark_11 (by decide) ?_
    obtain ⟨σ3, r3, h3, hf⟩ := sat_ca1 hf
    refine g_cSI (rest := []) B (ck_X6_in C h3) mo_X6_in wm_RX6_61 (by decide) rfl rfl (Nat.le_of_ble_eq_true rfl) dX6_mark_13 ?_
    refine g_if_ne (tgt := 21) B dX6_mark_16 (by decide) (fun c4 => ?_) (fun c4 => ?_)
    · have hf := sat_f hf c4
      refine g_iload_n B dX6_mark_21 rfl 2 rfl ?_
      refine g_iload_n B dX6_mark_22 rfl 3 rfl ?_
      obtain ⟨σ5, r5, h5, hf⟩ := sat_ca1 hf
      refine g_cSI (rest := []) B (ck_X6_areMarks C h5) mo_X6_areMarks wm_RX6_73 (by decide) rfl rfl (Nat.le_of_ble_eq_true rfl) dX6_mark_23 ?_
      refine g_if_ne (tgt := 32) B dX6_mark_26 (by decide) (fun c6 => ?_) (fun c6 => ?_)
      · have hf := sat_f hf c6
        refine g_bipush (v := 12) B dX6_mark_32 (by decide) ?_
        refine g_iload_n B dX6_mark_34 rfl 1 rfl ?_
        refine g_imul B dX6_mark_35 ?_
        refine g_iload_n B dX6_mark_36 rfl 2 rfl ?_
        refine g_iadd B dX6_mark_37 ?_
        refine g_istore B [(0, .ref (kAd K 0)), (1, .int p1), (2, .int p2), (3, .int p3), (4, .int (((12 * p1) + p2)))] dX6_mark_38 (by decide) [1, 2, 3, 4, 0] rfl ?_
        refine g_aload_n B dX6_mark_40 rfl 0 rfl ?_
        refine m_get_marks C wf_RX6_25 dX6_mark_41 ?_
        refine g_iload B dX6_mark_44 4 rfl ?_
        obtain ⟨h7, hf⟩ := sat_chk hf
        refine m_iald C 5 (by decide) rfl h7 dX6_mark_46 ?_
        refine g_istore B [(0, .ref (kAd K 0)), (1, .int p1), (2, .int p2), (3, .int p3), (4, .int (((12 * p1) + p2))), (5, .int ((σ5 6 ((12 * p1) + p2).toNatClampNeg)))] dX6_mark_47 (by decide) [1, 2, 3, 4, 5, 0] rfl ?_
        refine g_aload_n B dX6_mark_49 rfl 0 rfl ?_
        refine m_get_marks C wf_RX6_25 dX6_mark_50 ?_
        refine g_iload B dX6_mark_53 4 rfl ?_
        refine g_iload_n B dX6_mark_55 rfl 3 rfl ?_
        obtain ⟨h8, hf⟩ := sat_chk hf
        obtain ⟨σ8, e8, hf⟩ := sat_nm hf
        refine m_iast C 5 (by decide) rfl h8 dX6_mark_56 (g_mem2 e8 ?_)
        refine g_iload B dX6_mark_57 5 rfl ?_
        have hf := sat_some hf
        exact g_iret B rfl rfl dX6_mark_59 hf
      · have hf := sat_t hf c6
        refine g_bipush (v := (-4)) B dX6_mark_29 (by decide) ?_
        have hf := sat_some hf
        exact g_iret B rfl rfl dX6_mark_31 hf
    · have hf := sat_t hf c4
      refine g_iconst (v := (-1)) B dX6_mark_19 (by decide) ?_
      have hf := sat_some hf
      exact g_iret B rfl rfl dX6_mark_20 hf
theorem c_X6_mark (l : Launch) (D : va_G) (Ad : Nat → Nat) (cI : ClassId) {σ : Mm} {p1 : Int32} {p2 : Int32} {p3 : Int32} {τ : Mm} {r : Int32} (h : f_X6_mark σ p1 p2 p3 = some (τ, r)) : CtI l D (tysM cI) (wdM Ad cI) StM yX6_mark cX6_mark 6 .int 3 σ [.ref (Ad 0), .int p1, .int p2, .int p3] (τ, r) := by
  refine metI (Ad := Ad) (cI := cI) (cP := cI) (cII := cI) (by decide) (Nat.le_of_ble_eq_true rfl) (wdG_ok _ _ _) stOK_M rfl (fun K C G hR => ?_)
  have e : kAd K = Ad := G.2.2.2.2.2.1
  have C2 := cM_of C G
  have h9 := w_X6_mark C2 σ p1 p2 p3 ⟨_, h, by rw [hR]; exact ⟨rfl, rfl⟩⟩
  rw [e] at h9
  exact h9
theorem ck_X6_mark {K : Kx} {cc : ByteArray} {own : String} {nL d : Nat} {rty : Option FieldType} (C : CxM K cc own nL d rty) {σ : Mm} {p1 : Int32} {p2 : Int32} {p3 : Int32} {τ : Mm} {r : Int32} (h : f_X6_mark σ p1 p2 p3 = some (τ, r)) : CtI (kl K) (kD K) (ktys K) (kwf K) (kSt K) yX6_mark cX6_mark 6 .int 3 σ [.ref (kAd K 0), .int p1, .int p2, .int p3] (τ, r) := cM_eq C (P := fun l D tys wf St => CtI l D tys wf St yX6_mark cX6_mark 6 .int 3 σ [.ref (kAd K 0), .int p1, .int p2, .int p3] (τ, r)) (c_X6_mark _ _ _ _ h)
