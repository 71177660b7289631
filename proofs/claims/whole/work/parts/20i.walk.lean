def f_X5_unionSum_s4 (p1 : Int32) (σ1 : Mm) (v1_2 : Int32) (v1_3 : Int32) : Option ((Mm × Int32 × Int32) ⊕ (Mm × Int32)) :=
  (if 3 ≤ v1_3 then some (.inr (σ1, v1_2)) else bn1 (f_X5_unionBowing σ1 p1 v1_3) (fun σ6 r6 => onul r6 (none) (fun k6 => chk (kdC k6 == 0) (some (.inl (σ6, (v1_2 + (σ6 k6 0)), (v1_3 + 1)))))))
def f_X5_unionSum (σ : Mm) (p1 : Int32) : Option (Mm × Int32) :=
  bn1 (lq2 (f_X5_unionSum_s4 p1) fu σ 0 0) (fun σ2 v2_2 => (if v2_2 < 1000000 then bn1 (f_X5_countUnlike σ2 p1) (fun σ4 r4 => some (σ4, (v2_2 + (4 * r4)))) else some (σ2, 1000000)))
set_option maxHeartbeats 4000000 in
set_option maxRecDepth 100000 in
theorem w_X5_unionSum {K : Kx} (C : CxC K cX5_unionSum RX5 4 3 (some .int)) (σ : Mm) (p1 : Int32) (hf : Sat (f_X5_unionSum σ p1) (fun o => kRt K (some (.int o.2)) o.1)) : Gj K σ 0 [(0, .ref (kAd K 0)), (1, .int p1)] [] := by
  unfold f_X5_unionSum at hf
  have B := C.1
  refine g_iconst (v := 0) B dX5_unionSum_0 (by decide) ?_
  refine g_istore_n B [(0, .ref (kAd K 0)), (1, .int p1), (2, .int 0)] dX5_unionSum_1 rfl (by decide) [1, 2, 0] rfl ?_
  refine g_iconst (v := 0) B dX5_unionSum_2 (by decide) ?_
  refine g_istore_n B [(0, .ref (kAd K 0)), (1, .int p1), (2, .int 0), (3, .int 0)] dX5_unionSum_3 rfl (by decide) [1, 2, 3, 0] rfl ?_
  have hf := sat_cu1 (G := fun σ2 v2_2 => Gj K σ2 27 [(0, .ref (kAd K 0)), (1, .int p1), (2, .int v2_2)] []) hf (by
    intro σ2 v2_2 hf
    refine g_iload_n B dX5_unionSum_27 rfl 2 rfl ?_
    refine g_ldc B wk_RX5_182 dX5_unionSum_28 ?_
    refine g_icmp_lt (tgt := 38) B dX5_unionSum_30 (by decide) (fun c3 => ?_) (fun c3 => ?_)
    · have hf := sat_t hf c3
      refine g_iload_n B dX5_unionSum_38 rfl 2 rfl ?_
      refine g_iconst (v := 4) B dX5_unionSum_39 (by decide) ?_
      refine g_aload_n B dX5_unionSum_40 rfl 0 rfl ?_
      refine g_iload_n B dX5_unionSum_41 rfl 1 rfl ?_
      obtain ⟨σ4, r4, h4, hf⟩ := sat_ca1 hf
      refine g_cVI (rest := [.int 4, .int v2_2]) B (ck_X5_countUnlike C h4) mo_X5_countUnlike wm_RX5_165 (by decide) (cC_o3 C) rfl rfl rfl (Nat.le_of_ble_eq_true rfl) dX5_unionSum_42 ?_
      refine g_imul B dX5_unionSum_45 ?_
      refine g_iadd B dX5_unionSum_46 ?_
      have hf := sat_some hf
      exact g_iret B rfl rfl dX5_unionSum_47 hf
    · have hf := sat_f hf c3
      refine g_ldc B wk_RX5_182 dX5_unionSum_33 ?_
      refine g_goto (tgt := 47) B dX5_unionSum_35 (by decide) ?_
      have hf := sat_some hf
      exact g_iret B rfl rfl dX5_unionSum_47 hf)
  refine lqr2 (Gh := fun σ1 v1_2 v1_3 => Gj K σ1 4 [(0, .ref (kAd K 0)), (1, .int p1), (2, .int v1_2), (3, .int v1_3)] []) ?_ fu σ 0 0 hf
  intro σ1 v1_2 v1_3 hf
  unfold f_X5_unionSum_s4 at hf
  refine g_iload_n B dX5_unionSum_4 rfl 3 rfl ?_
  refine g_iconst (v := 3) B dX5_unionSum_5 (by decide) ?_
  refine g_icmp_ge (tgt := 27) B dX5_unionSum_6 (by decide) (fun c5 => ?_) (fun c5 => ?_)
  · have hf := sat_t hf c5
    have hf := sum_r (sat_some hf)
    exact g_sub hf [0, 1, 2] rfl
  · have hf := sat_f hf c5
    refine g_iload_n B dX5_unionSum_9 rfl 2 rfl ?_
    refine g_aload_n B dX5_unionSum_10 rfl 0 rfl ?_
    refine g_iload_n B dX5_unionSum_11 rfl 1 rfl ?_
    refine g_iload_n B dX5_unionSum_12 rfl 3 rfl ?_
    obtain ⟨σ6, r6, h6, hf⟩ := sat_ca1 hf
    refine g_cVA (rest := [.int v1_2]) B (ck_X5_unionBowing C h6) mo_X5_unionBowing wm_RX5_190 (by decide) (cC_o3 C) rfl rfl rfl (Nat.le_of_ble_eq_true rfl) dX5_unionSum_13 ?_
    cases r6 with
    | none =>
      exact (sat_none (sat_on0 hf)).elim
    | some k6 =>
      have hf := sat_on1 hf
      show Gj K σ6 16 [(0, .ref (kAd K 0)), (1, .int p1), (2, .int v1_2), (3, .int v1_3)] [.ref (kAd K k6), .int v1_2]
      obtain ⟨h7, hf⟩ := sat_chk hf
      refine c_get_B_cost C (eq_of_beq h7) wf_RX5_135 dX5_unionSum_16 ?_
      refine g_iadd B dX5_unionSum_19 ?_
      refine g_istore_n B [(0, .ref (kAd K 0)), (1, .int p1), (2, .int ((v1_2 + (σ6 k6 0)))), (3, .int v1_3)] dX5_unionSum_20 rfl (by decide) [1, 2, 0, 3] rfl ?_
      refine g_iinc B (v1_3 + 1) [(0, .ref (kAd K 0)), (1, .int p1), (2, .int ((v1_2 + (σ6 k6 0)))), (3, .int ((v1_3 + 1)))] dX5_unionSum_21 3 rfl rfl (by decide) [1, 2, 3, 0] rfl ?_
      refine g_goto (tgt := 4) B dX5_unionSum_24 (by decide) ?_
      have hf := sum_l (sat_some hf)
      exact g_sub hf [0, 1, 2, 3] rfl
theorem c_X5_unionSum (l : Launch) (D : va_G) (Ad : Nat → Nat) (cI cP cII : ClassId) {σ : Mm} {p1 : Int32} {τ : Mm} {r : Int32} (h : f_X5_unionSum σ p1 = some (τ, r)) : CtI l D (tysC cI cP cII) (wdC Ad cI cP cII) StC yX5_unionSum cX5_unionSum 4 .int 3 σ [.ref (Ad 0), .int p1] (τ, r) := by
  refine metI (Ad := Ad) (cI := cI) (cP := cP) (cII := cII) (by decide) (Nat.le_of_ble_eq_true rfl) (wdG_ok _ _ _) stOK_C rfl (fun K C G hR => ?_)
  have e : kAd K = Ad := G.2.2.2.2.2.1
  have C2 := cC_of C G
  have h9 := w_X5_unionSum C2 σ p1 ⟨_, h, by rw [hR]; exact ⟨rfl, rfl⟩⟩
  rw [e] at h9
  exact h9
theorem ck_X5_unionSum {K : Kx} {cc : ByteArray} {own : String} {nL d : Nat} {rty : Option FieldType} (C : CxC K cc own nL d rty) {σ : Mm} {p1 : Int32} {τ : Mm} {r : Int32} (h : f_X5_unionSum σ p1 = some (τ, r)) : CtI (kl K) (kD K) (ktys K) (kwf K) (kSt K) yX5_unionSum cX5_unionSum 4 .int 3 σ [.ref (kAd K 0), .int p1] (τ, r) := cC_eq C (P := fun l D tys wf St => CtI l D tys wf St yX5_unionSum cX5_unionSum 4 .int 3 σ [.ref (kAd K 0), .int p1] (τ, r)) (c_X5_unionSum _ _ _ _ _ _ h)
def f_X5_leastUnion_s10 (σ2 : Mm) (v2_1 : Int32) (v2_2 : Int32) (v2_3 : Int32) : Option ((Mm × Int32 × Int32 × Int32) ⊕ (Mm × Int32)) :=
  (if 8 ≤ v2_3 then some (.inr (σ2, v2_1)) else bn1 (f_X5_unionSum σ2 v2_3) (fun σ5 r5 => (if v2_2 ≤ r5 then some (.inl (σ5, v2_1, v2_2, (v2_3 + 1))) else some (.inl (σ5, v2_3, r5, (v2_3 + 1))))))
def f_X5_leastUnion (σ : Mm) : Option (Mm × Int32) :=
  bn1 (f_X5_unionSum σ 0) (fun σ1 r1 => bn1 (lq3 f_X5_leastUnion_s10 fu σ1 0 r1 1) (fun σ3 v3_1 => some (σ3, v3_1)))
set_option maxHeartbeats 4000000 in
set_option maxRecDepth 100000 in
theorem w_X5_leastUnion {K : Kx} (C : CxC K cX5_leastUnion RX5 5 4 (some .int)) (σ : Mm) (hf : Sat (f_X5_leastUnion σ ) (fun o => kRt K (some (.int o.2)) o.1)) : Gj K σ 0 [(0, .ref (kAd K 0))] [] := by
  unfold f_X5_leastUnion at hf
  have B := C.1
  refine g_iconst (v := 0) B dX5_leastUnion_0 (by decide) ?_
  refine g_istore_n B [(0, .ref (kAd K 0)), (1, .int 0)] dX5_leastUnion_1 rfl (by decide) [1, 0] rfl ?_
  refine g_aload_n B dX5_leastUnion_2 rfl 0 rfl ?_
  refine g_iconst (v := 0) B dX5_leastUnion_3 (by decide) ?_
  obtain ⟨σ1, r1, h1, hf⟩ := sat_ca1 hf
  refine g_cVI (rest := []) B (ck_X5_unionSum C h1) mo_X5_unionSum wm_RX5_162 (by decide) (cC_o3 C) rfl rfl rfl (Nat.le_of_ble_eq_true rfl) dX5_leastUnion_4 ?_
  refine g_istore_n B [(0, .ref (kAd K 0)), (1, .int 0), (2, .int r1)] dX5_leastUnion_7 rfl (by decide) [1, 2, 0] rfl ?_
  refine g_iconst (v := 1) B dX5_leastUnion_8 (by decide) ?_
  refine g_istore_n B [(0, .ref (kAd K 0)), (1, .int 0), (2, .int r1), (3, .int 1)] dX5_leastUnion_9 rfl (by decide) [1, 2, 3, 0] rfl ?_
  have hf := sat_cu1 (G := fun σ3 v3_1 => Gj K σ3 40 [(1, .int v3_1)] []) hf (by
    intro σ3 v3_1 hf
    refine g_iload_n B dX5_leastUnion_40 rfl 0 rfl ?_
    have hf := sat_some hf
    exact g_iret B rfl rfl dX5_leastUnion_41 hf)
  refine lqr3 (Gh := fun σ2 v2_1 v2_2 v2_3 => Gj K σ2 10 [(0, .ref (kAd K 0)), (1, .int v2_1), (2, .int v2_2), (3, .int v2_3)] []) ?_ fu σ1 0 r1 1 hf
  intro σ2 v2_1 v2_2 v2_3 hf
  unfold f_X5_leastUnion_s10 at hf
  refine g_iload_n B dX5_leastUnion_10 rfl 3 rfl ?_
  refine g_bipush (v := 8) B dX5_leastUnion_11 (by decide) ?_
  refine g_icmp_ge (tgt := 40) B dX5_leastUnion_13 (by decide) (fun c4 => ?_) (fun c4 => ?_)
  · have hf := sat_t hf c4
    have hf := sum_r (sat_some hf)
    exact g_sub hf [1] rfl
  · have hf := sat_f hf c4
    refine g_aload_n B dX5_leastUnion_16 rfl 0 rfl ?_
    refine g_iload_n B dX5_leastUnion_17 rfl 3 rfl ?_
    obtain ⟨σ5, r5, h5, hf⟩ := sat_ca1 hf
    refine g_cVI (rest := []) B (ck_X5_unionSum C h5) mo_X5_unionSum wm_RX5_162 (by decide) (cC_o3 C) rfl rfl rfl (Nat.le_of_ble_eq_true rfl) dX5_leastUnion_18 ?_
    refine g_istore B [(0, .ref (kAd K 0)), (1, .int v2_1), (2, .int v2_2), (3, .int v2_3), (4, .int r5)] dX5_leastUnion_21 (by decide) [1, 2, 3, 4, 0] rfl ?_
    refine g_iload B dX5_leastUnion_23 4 rfl ?_
    refine g_iload_n B dX5_leastUnion_25 rfl 2 rfl ?_
    refine g_icmp_ge (tgt := 34) B dX5_leastUnion_26 (by decide) (fun c6 => ?_) (fun c6 => ?_)
    · have hf := sat_t hf c6
      refine g_iinc B (v2_3 + 1) [(0, .ref (kAd K 0)), (1, .int v2_1), (2, .int v2_2), (3, .int ((v2_3 + 1))), (4, .int r5)] dX5_leastUnion_34 3 rfl rfl (by decide) [1, 2, 3, 0, 4] rfl ?_
      refine g_goto (tgt := 10) B dX5_leastUnion_37 (by decide) ?_
      have hf := sum_l (sat_some hf)
      exact g_sub hf [0, 1, 2, 3] rfl
    · have hf := sat_f hf c6
      refine g_iload_n B dX5_leastUnion_29 rfl 3 rfl ?_
      refine g_istore_n B [(0, .ref (kAd K 0)), (1, .int v2_3), (2, .int v2_2), (3, .int v2_3), (4, .int r5)] dX5_leastUnion_30 rfl (by decide) [1, 0, 2, 3, 4] rfl ?_
      refine g_iload B dX5_leastUnion_31 4 rfl ?_
      refine g_istore_n B [(0, .ref (kAd K 0)), (1, .int v2_3), (2, .int r5), (3, .int v2_3), (4, .int r5)] dX5_leastUnion_33 rfl (by decide) [1, 2, 0, 3, 4] rfl ?_
      refine g_iinc B (v2_3 + 1) [(0, .ref (kAd K 0)), (1, .int v2_3), (2, .int r5), (3, .int ((v2_3 + 1))), (4, .int r5)] dX5_leastUnion_34 3 rfl rfl (by decide) [1, 2, 3, 0, 4] rfl ?_
      refine g_goto (tgt := 10) B dX5_leastUnion_37 (by decide) ?_
      have hf := sum_l (sat_some hf)
      exact g_sub hf [0, 1, 2, 3] rfl
theorem c_X5_leastUnion (l : Launch) (D : va_G) (Ad : Nat → Nat) (cI cP cII : ClassId) {σ : Mm} {τ : Mm} {r : Int32} (h : f_X5_leastUnion σ  = some (τ, r)) : CtI l D (tysC cI cP cII) (wdC Ad cI cP cII) StC yX5_leastUnion cX5_leastUnion 5 .int 4 σ [.ref (Ad 0)] (τ, r) := by
  refine metI (Ad := Ad) (cI := cI) (cP := cP) (cII := cII) (by decide) (Nat.le_of_ble_eq_true rfl) (wdG_ok _ _ _) stOK_C rfl (fun K C G hR => ?_)
  have e : kAd K = Ad := G.2.2.2.2.2.1
  have C2 := cC_of C G
  have h9 := w_X5_leastUnion C2 σ  ⟨_, h, by rw [hR]; exact ⟨rfl, rfl⟩⟩
  rw [e] at h9
  exact h9
theorem ck_X5_leastUnion {K : Kx} {cc : ByteArray} {own : String} {nL d : Nat} {rty : Option FieldType} (C : CxC K cc own nL d rty) {σ : Mm} {τ : Mm} {r : Int32} (h : f_X5_leastUnion σ  = some (τ, r)) : CtI (kl K) (kD K) (ktys K) (kwf K) (kSt K) yX5_leastUnion cX5_leastUnion 5 .int 4 σ [.ref (kAd K 0)] (τ, r) := cC_eq C (P := fun l D tys wf St => CtI l D tys wf St yX5_leastUnion cX5_leastUnion 5 .int 4 σ [.ref (kAd K 0)] (τ, r)) (c_X5_leastUnion _ _ _ _ _ _ h)
def f_X5_workAllBowings_s2 (σ1 : Mm) (v1_1 : Int32) : Option ((Mm × Int32) ⊕ (Mm)) :=
  (if 3 ≤ v1_1 then some (.inr σ1) else chk (inb v1_1 3) (chk (kdC (31 + 15 * v1_1.toNatClampNeg) == 2) (chk (inb v1_1 3) (chk (kdC ((31 + 15 * v1_1.toNatClampNeg) + 7) == 0) (bn0 (f_X0_work σ1 ((31 + 15 * v1_1.toNatClampNeg) + 7) (31 + 15 * v1_1.toNatClampNeg) 0) (fun σ7 => chk (inb v1_1 3) (chk (inb v1_1 3) (chk (kdC ((31 + 15 * v1_1.toNatClampNeg) + 11) == 0) (bn0 (f_X0_work σ7 ((31 + 15 * v1_1.toNatClampNeg) + 11) (31 + 15 * v1_1.toNatClampNeg) 1) (fun σ11 => some (.inl (σ11, (v1_1 + 1)))))))))))))
def f_X5_workAllBowings (σ : Mm) : Option (Mm) :=
  bn0 (lq1 f_X5_workAllBowings_s2 fu σ 0) (fun σ2 => some σ2)
set_option maxHeartbeats 4000000 in
set_option maxRecDepth 100000 in
theorem w_X5_workAllBowings {K : Kx} (C : CxC K cX5_workAllBowings RX5 2 5 none) (σ : Mm) (hf : Sat (f_X5_workAllBowings σ ) (fun o => kRt K none o)) : Gj K σ 0 [(0, .ref (kAd K 0))] [] := by
  unfold f_X5_workAllBowings at hf
  have B := C.1
  refine g_iconst (v := 0) B dX5_workAllBowings_0 (by decide) ?_
  refine g_istore_n B [(0, .ref (kAd K 0)), (1, .int 0)] dX5_workAllBowings_1 rfl (by decide) [1, 0] rfl ?_
  have hf := sat_cu0 (G := fun σ2 => Gj K σ2 51 [] []) hf (by
    intro σ2 hf
    have hf := sat_some hf
    exact g_vret B rfl dX5_workAllBowings_51 hf)
  refine lqr1 (Gh := fun σ1 v1_1 => Gj K σ1 2 [(0, .ref (kAd K 0)), (1, .int v1_1)] []) ?_ fu σ 0 hf
  intro σ1 v1_1 hf
  unfold f_X5_workAllBowings_s2 at hf
  refine g_iload_n B dX5_workAllBowings_2 rfl 1 rfl ?_
  refine g_iconst (v := 3) B dX5_workAllBowings_3 (by decide) ?_
  refine g_icmp_ge (tgt := 51) B dX5_workAllBowings_4 (by decide) (fun c3 => ?_) (fun c3 => ?_)
  · have hf := sat_t hf c3
    have hf := sum_r (sat_some hf)
    exact g_sub hf [] rfl
  · have hf := sat_f hf c3
    refine g_aload_n B dX5_workAllBowings_7 rfl 0 rfl ?_
    refine c_get_F_parts C wf_RX5_16 dX5_workAllBowings_8 ?_
    refine g_iload_n B dX5_workAllBowings_11 rfl 1 rfl ?_
    obtain ⟨h4, hf⟩ := sat_chk hf
    refine c_aald2 C h4 dX5_workAllBowings_12 ?_
    obtain ⟨h5, hf⟩ := sat_chk hf
    refine c_get_P_down C (eq_of_beq h5) wf_RX5_183 dX5_workAllBowings_13 ?_
    refine g_aload_n B dX5_workAllBowings_16 rfl 0 rfl ?_
    refine c_get_F_parts C wf_RX5_16 dX5_workAllBowings_17 ?_
    refine g_iload_n B dX5_workAllBowings_20 rfl 1 rfl ?_
    obtain ⟨h6, hf⟩ := sat_chk hf
    refine c_aald2 C h6 dX5_workAllBowings_21 ?_
    refine g_iconst (v := 0) B dX5_workAllBowings_22 (by decide) ?_
    obtain ⟨h8, hf⟩ := sat_chk hf
    obtain ⟨σ7, h7, hf⟩ := sat_ca0 hf
    refine g_cVV (rest := []) B (ck_X0_work C h7) mo_X0_work wm_RX5_125 (by decide) (cC_o0 C (eq_of_beq h8)) rfl rfl rfl (Nat.le_of_ble_eq_true rfl) dX5_workAllBowings_23 ?_
    refine g_aload_n B dX5_workAllBowings_26 rfl 0 rfl ?_
    refine c_get_F_parts C wf_RX5_16 dX5_workAllBowings_27 ?_
    refine g_iload_n B dX5_workAllBowings_30 rfl 1 rfl ?_
    obtain ⟨h9, hf⟩ := sat_chk hf
    refine c_aald2 C h9 dX5_workAllBowings_31 ?_
    refine c_get_P_up C (eq_of_beq h5) wf_RX5_187 dX5_workAllBowings_32 ?_
    refine g_aload_n B dX5_workAllBowings_35 rfl 0 rfl ?_
    refine c_get_F_parts C wf_RX5_16 dX5_workAllBowings_36 ?_
    refine g_iload_n B dX5_workAllBowings_39 rfl 1 rfl ?_
    obtain ⟨h10, hf⟩ := sat_chk hf
    refine c_aald2 C h10 dX5_workAllBowings_40 ?_
    refine g_iconst (v := 1) B dX5_workAllBowings_41 (by decide) ?_
    obtain ⟨h12, hf⟩ := sat_chk hf
    obtain ⟨σ11, h11, hf⟩ := sat_ca0 hf
    refine g_cVV (rest := []) B (ck_X0_work C h11) mo_X0_work wm_RX5_125 (by decide) (cC_o0 C (eq_of_beq h12)) rfl rfl rfl (Nat.le_of_ble_eq_true rfl) dX5_workAllBowings_42 ?_
    refine g_iinc B (v1_1 + 1) [(0, .ref (kAd K 0)), (1, .int ((v1_1 + 1)))] dX5_workAllBowings_45 1 rfl rfl (by decide) [1, 0] rfl ?_
    refine g_goto (tgt := 2) B dX5_workAllBowings_48 (by decide) ?_
    have hf := sum_l (sat_some hf)
    exact g_sub hf [0, 1] rfl
theorem c_X5_workAllBowings (l : Launch) (D : va_G) (Ad : Nat → Nat) (cI cP cII : ClassId) {σ : Mm} {τ : Mm} (h : f_X5_workAllBowings σ  = some τ) : CtV l D (tysC cI cP cII) (wdC Ad cI cP cII) StC yX5_workAllBowings cX5_workAllBowings 2 5 σ [.ref (Ad 0)] τ := by
  refine metV (Ad := Ad) (cI := cI) (cP := cP) (cII := cII) (by decide) (Nat.le_of_ble_eq_true rfl) (wdG_ok _ _ _) stOK_C rfl (fun K C G hR => ?_)
  have e : kAd K = Ad := G.2.2.2.2.2.1
  have C2 := cC_of C G
  have h9 := w_X5_workAllBowings C2 σ  ⟨_, h, by rw [hR]; exact ⟨rfl, rfl⟩⟩
  rw [e] at h9
  exact h9
theorem ck_X5_workAllBowings {K : Kx} {cc : ByteArray} {own : String} {nL d : Nat} {rty : Option FieldType} (C : CxC K cc own nL d rty) {σ : Mm} {τ : Mm} (h : f_X5_workAllBowings σ  = some τ) : CtV (kl K) (kD K) (ktys K) (kwf K) (kSt K) yX5_workAllBowings cX5_workAllBowings 2 5 σ [.ref (kAd K 0)] τ := cC_eq C (P := fun l D tys wf St => CtV l D tys wf St yX5_workAllBowings cX5_workAllBowings 2 5 σ [.ref (kAd K 0)] τ) (c_X5_workAllBowings _ _ _ _ _ _ h)
def f_X5_union (σ : Mm) (p1 : Int32) : Option (Mm × Int32) :=
  bn1 (f_X5_isOutside σ p1 0 2) (fun σ1 r1 => (if r1 = 0 then bn0 (f_X5_workAllBowings σ1) (fun σ3 => bn1 (f_X5_leastUnion σ3) (fun σ4 r4 => (if p1 = 0 then some (σ4, r4) else (if p1 = 1 then bn1 (f_X5_unionSum σ4 r4) (fun σ8 r8 => some (σ8, r8)) else bn1 (f_X5_countUnlike σ4 r4) (fun σ7 r7 => some (σ7, r7)))))) else some (σ1, (-1))))
set_option maxHeartbeats 4000000 in
set_option maxRecDepth 100000 in
theorem w_X5_union {K : Kx} (C : CxC K cX5_union RX5 3 6 (some .int)) (σ : Mm) (p1 : Int32) (hf : Sat (f_X5_union σ p1) (fun o => kRt K (some (.int o.2)) o.1)) : Gj K σ 0 [(0, .ref (kAd K 0)), (1, .int p1)] [] := by
  unfold f_X5_union at hf
  have B := C.1
  refine g_iload_n B dX5_union_0 rfl 1 rfl ?_
  refine g_iconst (v := 0) B dX5_union_1 (by decide) ?_
  refine g_iconst (v := 2) B dX5_union_2 (by decide) ?_
  obtain ⟨σ1, r1, h1, hf⟩ := sat_ca1 hf
  refine g_cSI (rest := []) B (ck_X5_isOutside C h1) mo_X5_isOutside wm_RX5_27 (by decide) rfl rfl (Nat.le_of_ble_eq_true rfl) dX5_union_3 ?_
  refine g_if_eq (tgt := 11) B dX5_union_6 (by decide) (fun c2 => ?_) (fun c2 => ?_)
  · have hf := sat_t hf c2
    refine g_aload_n B dX5_union_11 rfl 0 rfl ?_
    obtain ⟨σ3, h3, hf⟩ := sat_ca0 hf
    refine g_cVV (rest := []) B (ck_X5_workAllBowings C h3) mo_X5_workAllBowings wm_RX5_156 (by decide) (cC_o3 C) rfl rfl rfl (Nat.le_of_ble_eq_true rfl) dX5_union_12 ?_
    refine g_aload_n B dX5_union_15 rfl 0 rfl ?_
    obtain ⟨σ4, r4, h4, hf⟩ := sat_ca1 hf
    refine g_cVI (rest := []) B (ck_X5_leastUnion C h4) mo_X5_leastUnion wm_RX5_159 (by decide) (cC_o3 C) rfl rfl rfl (Nat.le_of_ble_eq_true rfl) dX5_union_16 ?_
    refine g_istore_n B [(0, .ref (kAd K 0)), (1, .int p1), (2, .int r4)] dX5_union_19 rfl (by decide) [1, 2, 0] rfl ?_
    refine g_iload_n B dX5_union_20 rfl 1 rfl ?_
    refine g_if_ne (tgt := 26) B dX5_union_21 (by decide) (fun c5 => ?_) (fun c5 => ?_)
    · have hf := sat_f hf c5
      refine g_iload_n B dX5_union_26 rfl 1 rfl ?_
      refine g_iconst (v := 1) B dX5_union_27 (by decide) ?_
      refine g_icmp_ne (tgt := 39) B dX5_union_28 (by decide) (fun c6 => ?_) (fun c6 => ?_)
      · have hf := sat_f hf c6
        refine g_aload_n B dX5_union_39 rfl 0 rfl ?_
        refine g_iload_n B dX5_union_40 rfl 2 rfl ?_
        obtain ⟨σ7, r7, h7, hf⟩ := sat_ca1 hf
        refine g_cVI (rest := []) B (ck_X5_countUnlike C h7) mo_X5_countUnlike wm_RX5_165 (by decide) (cC_o3 C) rfl rfl rfl (Nat.le_of_ble_eq_true rfl) dX5_union_41 ?_
        have hf := sat_some hf
        exact g_iret B rfl rfl dX5_union_44 hf
      · have hf := sat_t hf c6
        refine g_aload_n B dX5_union_31 rfl 0 rfl ?_
        refine g_iload_n B dX5_union_32 rfl 2 rfl ?_
        obtain ⟨σ8, r8, h8, hf⟩ := sat_ca1 hf
        refine g_cVI (rest := []) B (ck_X5_unionSum C h8) mo_X5_unionSum wm_RX5_162 (by decide) (cC_o3 C) rfl rfl rfl (Nat.le_of_ble_eq_true rfl) dX5_union_33 ?_
        refine g_goto (tgt := 44) B dX5_union_36 (by decide) ?_
        have hf := sat_some hf
        exact g_iret B rfl rfl dX5_union_44 hf
    · have hf := sat_t hf c5
      refine g_iload_n B dX5_union_24 rfl 2 rfl ?_
      have hf := sat_some hf
      exact g_iret B rfl rfl dX5_union_25 hf
  · have hf := sat_f hf c2
    refine g_iconst (v := (-1)) B dX5_union_9 (by decide) ?_
    have hf := sat_some hf
    exact g_iret B rfl rfl dX5_union_10 hf
theorem c_X5_union (l : Launch) (D : va_G) (Ad : Nat → Nat) (cI cP cII : ClassId) {σ : Mm} {p1 : Int32} {τ : Mm} {r : Int32} (h : f_X5_union σ p1 = some (τ, r)) : CtI l D (tysC cI cP cII) (wdC Ad cI cP cII) StC yX5_union cX5_union 3 .int 6 σ [.ref (Ad 0), .int p1] (τ, r) := by
  refine metI (Ad := Ad) (cI := cI) (cP := cP) (cII := cII) (by decide) (Nat.le_of_ble_eq_true rfl) (wdG_ok _ _ _) stOK_C rfl (fun K C G hR => ?_)
  have e : kAd K = Ad := G.2.2.2.2.2.1
  have C2 := cC_of C G
  have h9 := w_X5_union C2 σ p1 ⟨_, h, by rw [hR]; exact ⟨rfl, rfl⟩⟩
  rw [e] at h9
  exact h9
theorem ck_X5_union {K : Kx} {cc : ByteArray} {own : String} {nL d : Nat} {rty : Option FieldType} (C : CxC K cc own nL d rty) {σ : Mm} {p1 : Int32} {τ : Mm} {r : Int32} (h : f_X5_union σ p1 = some (τ, r)) : CtI (kl K) (kD K) (ktys K) (kwf K) (kSt K) yX5_union cX5_union 3 .int 6 σ [.ref (kAd K 0), .int p1] (τ, r) := cC_eq C (P := fun l D tys wf St => CtI l D tys wf St yX5_union cX5_union 3 .int 6 σ [.ref (kAd K 0), .int p1] (τ, r)) (c_X5_union _ _ _ _ _ _ h)
def f_X5_countAlikeOfTwo_s15 (k1a : Nat) (k0a : Nat) (v1_3 : Int32) (σ5 : Mm) (v5_2 : Int32) (v5_4 : Int32) : Option ((Mm × Int32 × Int32) ⊕ (Mm × Int32)) :=
  chk (kdC k1a == 2) ((if (σ5 k1a 0) ≤ v5_4 then some (.inr (σ5, v5_2)) else bn1 (f_X5_areAlike σ5 k0a v1_3 k1a v5_4) (fun σ9 r9 => (if r9 = 0 then some (.inl (σ9, v5_2, (v5_4 + 1))) else some (.inl (σ9, (v5_2 + 1), (v5_4 + 1)))))))
def f_X5_countAlikeOfTwo_s4 (k0a : Nat) (k1a : Nat) (σ1 : Mm) (v1_2 : Int32) (v1_3 : Int32) : Option ((Mm × Int32 × Int32) ⊕ (Mm × Int32)) :=
  chk (kdC k0a == 2) ((if (σ1 k0a 0) ≤ v1_3 then some (.inr (σ1, v1_2)) else bn1 (lq2 (f_X5_countAlikeOfTwo_s15 k1a k0a v1_3) fu σ1 v1_2 0) (fun σ6 v6_2 => some (.inl (σ6, v6_2, (v1_3 + 1))))))
def f_X5_countAlikeOfTwo (σ : Mm) (k0a : Nat) (k1a : Nat) : Option (Mm × Int32) :=
  bn1 (lq2 (f_X5_countAlikeOfTwo_s4 k0a k1a) fu σ 0 0) (fun σ2 v2_2 => some (σ2, v2_2))
set_option maxHeartbeats 4000000 in
set_option maxRecDepth 100000 in
theorem w_X5_countAlikeOfTwo {K : Kx} (C : CxC K cX5_countAlikeOfTwo RX5 5 1 (some .int)) (σ : Mm) (k0a : Nat) (k1a : Nat) (hf : Sat (f_X5_countAlikeOfTwo σ k0a k1a) (fun o => kRt K (some (.int o.2)) o.1)) : Gj K σ 0 [(0, .ref (kAd K k0a)), (1, .ref (kAd K k1a))] [] := by
  unfold f_X5_countAlikeOfTwo at hf
  have B := C.1
  refine g_iconst (v := 0) B dX5_countAlikeOfTwo_0 (by decide) ?_
  refine g_istore_n B [(0, .ref (kAd K k0a)), (1, .ref (kAd K k1a)), (2, .int 0)] dX5_countAlikeOfTwo_1 rfl (by decide) [1, 2, 0] rfl ?_
  refine g_iconst (v := 0) B dX5_countAlikeOfTwo_2 (by decide) ?_
  refine g_istore_n B [(0, .ref (kAd K k0a)), (1, .ref (kAd K k1a)), (2, .int 0), (3, .int 0)] dX5_countAlikeOfTwo_3 rfl (by decide) [1, 2, 3, 0] rfl ?_
  have hf := sat_cu1 (G := fun σ2 v2_2 => Gj K σ2 50 [(2, .int v2_2)] []) hf (by
    intro σ2 v2_2 hf
    refine g_iload_n B dX5_countAlikeOfTwo_50 rfl 0 rfl ?_
    have hf := sat_some hf
    exact g_iret B rfl rfl dX5_countAlikeOfTwo_51 hf)
  refine lqr2 (Gh := fun σ1 v1_2 v1_3 => Gj K σ1 4 [(0, .ref (kAd K k0a)), (1, .ref (kAd K k1a)), (2, .int v1_2), (3, .int v1_3)] []) ?_ fu σ 0 0 hf
  intro σ1 v1_2 v1_3 hf
  unfold f_X5_countAlikeOfTwo_s4 at hf
  refine g_iload_n B dX5_countAlikeOfTwo_4 rfl 3 rfl ?_
  refine g_aload_n B dX5_countAlikeOfTwo_5 rfl 0 rfl ?_
  obtain ⟨h3, hf⟩ := sat_chk hf
  refine c_get_P_count C (eq_of_beq h3) wf_RX5_39 dX5_countAlikeOfTwo_6 ?_
  refine g_icmp_ge (tgt := 50) B dX5_countAlikeOfTwo_9 (by decide) (fun c4 => ?_) (fun c4 => ?_)
  · have hf := sat_t hf c4
    have hf := sum_r (sat_some hf)
    exact g_sub hf [2] rfl
  · have hf := sat_f hf c4
    refine g_iconst (v := 0) B dX5_countAlikeOfTwo_12 (by decide) ?_
    refine g_istore B [(0, .ref (kAd K k0a)), (1, .ref (kAd K k1a)), (2, .int v1_2), (3, .int v1_3), (4, .int 0)] dX5_countAlikeOfTwo_13 (by decide) [1, 2, 3, 4, 0] rfl ?_
    have hf := sat_cu1 (G := fun σ6 v6_2 => Gj K σ6 44 [(0, .ref (kAd K k0a)), (1, .ref (kAd K k1a)), (2, .int v6_2), (3, .int v1_3)] []) hf (by
      intro σ6 v6_2 hf
      refine g_iinc B (v1_3 + 1) [(0, .ref (kAd K k0a)), (1, .ref (kAd K k1a)), (2, .int v6_2), (3, .int ((v1_3 + 1)))] dX5_countAlikeOfTwo_44 3 rfl rfl (by decide) [1, 2, 3, 0] rfl ?_
      refine g_goto (tgt := 4) B dX5_countAlikeOfTwo_47 (by decide) ?_
      have hf := sum_l (sat_some hf)
      exact g_sub hf [0, 1, 2, 3] rfl)
    refine lqr2 (Gh := fun σ5 v5_2 v5_4 => Gj K σ5 15 [(0, .ref (kAd K k0a)), (1, .ref (kAd K k1a)), (2, .int v5_2), (3, .int v1_3), (4, .int v5_4)] []) ?_ fu σ1 v1_2 0 hf
    intro σ5 v5_2 v5_4 hf
    unfold f_X5_countAlikeOfTwo_s15 at hf
    refine g_iload B dX5_countAlikeOfTwo_15 4 rfl ?_
    refine g_aload_n B dX5_countAlikeOfTwo_17 rfl 1 rfl ?_
    obtain ⟨h7, hf⟩ := sat_chk hf
    refine c_get_P_count C (eq_of_beq h7) wf_RX5_39 dX5_countAlikeOfTwo_18 ?_
    refine g_icmp_ge (tgt := 44) B dX5_countAlikeOfTwo_21 (by decide) (fun c8 => ?_) (fun c8 => ?_)
    · have hf := sat_t hf c8
      have hf := sum_r (sat_some hf)
      exact g_sub hf [0, 1, 2, 3] rfl
    · have hf := sat_f hf c8
      refine g_aload_n B dX5_countAlikeOfTwo_24 rfl 0 rfl ?_
      refine g_iload_n B dX5_countAlikeOfTwo_25 rfl 3 rfl ?_
      refine g_aload_n B dX5_countAlikeOfTwo_26 rfl 1 rfl ?_
      refine g_iload B dX5_countAlikeOfTwo_27 4 rfl ?_
      obtain ⟨σ9, r9, h9, hf⟩ := sat_ca1 hf
      refine g_cSI (rest := []) B (ck_X5_areAlike C h9) mo_X5_areAlike wm_RX5_152 (by decide) rfl rfl (Nat.le_of_ble_eq_true rfl) dX5_countAlikeOfTwo_29 ?_
      refine g_if_eq (tgt := 38) B dX5_countAlikeOfTwo_32 (by decide) (fun c10 => ?_) (fun c10 => ?_)
      · have hf := sat_t hf c10
        refine g_iinc B (v5_4 + 1) [(0, .ref (kAd K k0a)), (1, .ref (kAd K k1a)), (2, .int v5_2), (3, .int v1_3), (4, .int ((v5_4 + 1)))] dX5_countAlikeOfTwo_38 4 rfl rfl (by decide) [1, 2, 3, 4, 0] rfl ?_
        refine g_goto (tgt := 15) B dX5_countAlikeOfTwo_41 (by decide) ?_
        have hf := sum_l (sat_some hf)
        exact g_sub hf [0, 1, 2, 3, 4] rfl
      · have hf := sat_f hf c10
        refine g_iinc B (v5_2 + 1) [(0, .ref (kAd K k0a)), (1, .ref (kAd K k1a)), (2, .int ((v5_2 + 1))), (3, .int v1_3), (4, .int v5_4)] dX5_countAlikeOfTwo_35 2 rfl rfl (by decide) [1, 2, 0, 3, 4] rfl ?_
        refine g_iinc B (v5_4 + 1) [(0, .ref (kAd K k0a)), (1, .ref (kAd K k1a)), (2, .int ((v5_2 + 1))), (3, .int v1_3), (4, .int ((v5_4 + 1)))] dX5_countAlikeOfTwo_38 4 rfl rfl (by decide) [1, 2, 3, 4, 0] rfl ?_
        refine g_goto (tgt := 15) B dX5_countAlikeOfTwo_41 (by decide) ?_
        have hf := sum_l (sat_some hf)
        exact g_sub hf [0, 1, 2, 3, 4] rfl
theorem c_X5_countAlikeOfTwo (l : Launch) (D : va_G) (Ad : Nat → Nat) (cI cP cII : ClassId) {σ : Mm} {k0a : Nat} {k1a : Nat} {τ : Mm} {r : Int32} (h : f_X5_countAlikeOfTwo σ k0a k1a = some (τ, r)) : CtI l D (tysC cI cP cII) (wdC Ad cI cP cII) StC yX5_countAlikeOfTwo cX5_countAlikeOfTwo 5 .int 1 σ [.ref (Ad k0a), .ref (Ad k1a)] (τ, r) := by
  refine metI (Ad := Ad) (cI := cI) (cP := cP) (cII := cII) (by decide) (Nat.le_of_ble_eq_true rfl) (wdG_ok _ _ _) stOK_C rfl (fun K C G hR => ?_)
  have e : kAd K = Ad := G.2.2.2.2.2.1
  have C2 := cC_of C G
  have h9 := w_X5_countAlikeOfTwo C2 σ k0a k1a ⟨_, h, by rw [hR]; exact ⟨rfl, rfl⟩⟩
  rw [e] at h9
  exact h9
theorem ck_X5_countAlikeOfTwo {K : Kx} {cc : ByteArray} {own : String} {nL d : Nat} {rty : Option FieldType} (C : CxC K cc own nL d rty) {σ : Mm} {k0a : Nat} {k1a : Nat} {τ : Mm} {r : Int32} (h : f_X5_countAlikeOfTwo σ k0a k1a = some (τ, r)) : CtI (kl K) (kD K) (ktys K) (kwf K) (kSt K) yX5_countAlikeOfTwo cX5_countAlikeOfTwo 5 .int 1 σ [.ref (kAd K k0a), .ref (kAd K k1a)] (τ, r) := cC_eq C (P := fun l D tys wf St => CtI l D tys wf St yX5_countAlikeOfTwo cX5_countAlikeOfTwo 5 .int 1 σ [.ref (kAd K k0a), .ref (kAd K k1a)] (τ, r)) (c_X5_countAlikeOfTwo _ _ _ _ _ _ h)
def f_X5_countAlike_s13 (v1_2 : Int32) (σ4 : Mm) (v4_1 : Int32) (v4_3 : Int32) : Option ((Mm × Int32 × Int32) ⊕ (Mm × Int32)) :=
  (if 3 ≤ v4_3 then some (.inr (σ4, v4_1)) else chk (inb v1_2 3) (chk (inb v4_3 3) (bn1 (f_X5_countAlikeOfTwo σ4 (31 + 15 * v1_2.toNatClampNeg) (31 + 15 * v4_3.toNatClampNeg)) (fun σ9 r9 => some (.inl (σ9, (v4_1 + r9), (v4_3 + 1)))))))
def f_X5_countAlike_s4 (σ1 : Mm) (v1_1 : Int32) (v1_2 : Int32) : Option ((Mm × Int32 × Int32) ⊕ (Mm × Int32)) :=
  (if 3 ≤ v1_2 then some (.inr (σ1, v1_1)) else bn1 (lq2 (f_X5_countAlike_s13 v1_2) fu σ1 v1_1 (v1_2 + 1)) (fun σ5 v5_1 => some (.inl (σ5, v5_1, (v1_2 + 1)))))
def f_X5_countAlike (σ : Mm) : Option (Mm × Int32) :=
  bn1 (lq2 f_X5_countAlike_s4 fu σ 0 0) (fun σ2 v2_1 => some (σ2, v2_1))
set_option maxHeartbeats 4000000 in
set_option maxRecDepth 100000 in
theorem w_X5_countAlike {K : Kx} (C : CxC K cX5_countAlike RX5 4 2 (some .int)) (σ : Mm) (hf : Sat (f_X5_countAlike σ ) (fun o => kRt K (some (.int o.2)) o.1)) : Gj K σ 0 [(0, .ref (kAd K 0))] [] := by
  unfold f_X5_countAlike at hf
  have B := C.1
  refine g_iconst (v := 0) B dX5_countAlike_0 (by decide) ?_
  refine g_istore_n B [(0, .ref (kAd K 0)), (1, .int 0)] dX5_countAlike_1 rfl (by decide) [1, 0] rfl ?_
  refine g_iconst (v := 0) B dX5_countAlike_2 (by decide) ?_
  refine g_istore_n B [(0, .ref (kAd K 0)), (1, .int 0), (2, .int 0)] dX5_countAlike_3 rfl (by decide) [1, 2, 0] rfl ?_
  have hf := sat_cu1 (G := fun σ2 v2_1 => Gj K σ2 48 [(1, .int v2_1)] []) hf (by
    intro σ2 v2_1 hf
    refine g_iload_n B dX5_countAlike_48 rfl 0 rfl ?_
    have hf := sat_some hf
    exact g_iret B rfl rfl dX5_countAlike_49 hf)
  refine lqr2 (Gh := fun σ1 v1_1 v1_2 => Gj K σ1 4 [(0, .ref (kAd K 0)), (1, .int v1_1), (2, .int v1_2)] []) ?_ fu σ 0 0 hf
  intro σ1 v1_1 v1_2 hf
  unfold f_X5_countAlike_s4 at hf
  refine g_iload_n B dX5_countAlike_4 rfl 2 rfl ?_
  refine g_iconst (v := 3) B dX5_countAlike_5 (by decide) ?_
  refine g_icmp_ge (tgt := 48) B dX5_countAlike_6 (by decide) (fun c3 => ?_) (fun c3 => ?_)
  · have hf := sat_t hf c3
    have hf := sum_r (sat_some hf)
    exact g_sub hf [1] rfl
  · have hf := sat_f hf c3
    refine g_iload_n B dX5_countAlike_9 rfl 2 rfl ?_
    refine g_iconst (v := 1) B dX5_countAlike_10 (by decide) ?_
    refine g_iadd B dX5_countAlike_11 ?_
    refine g_istore_n B [(0, .ref (kAd K 0)), (1, .int v1_1), (2, .int v1_2), (3, .int ((v1_2 + 1)))] dX5_countAlike_12 rfl (by decide) [1, 2, 3, 0] rfl ?_
    have hf := sat_cu1 (G := fun σ5 v5_1 => Gj K σ5 42 [(0, .ref (kAd K 0)), (1, .int v5_1), (2, .int v1_2)] []) hf (by
      intro σ5 v5_1 hf
      refine g_iinc B (v1_2 + 1) [(0, .ref (kAd K 0)), (1, .int v5_1), (2, .int ((v1_2 + 1)))] dX5_countAlike_42 2 rfl rfl (by decide) [1, 2, 0] rfl ?_
      refine g_goto (tgt := 4) B dX5_countAlike_45 (by decide) ?_
      have hf := sum_l (sat_some hf)
      exact g_sub hf [0, 1, 2] rfl)
    refine lqr2 (Gh := fun σ4 v4_1 v4_3 => Gj K σ4 13 [(0, .ref (kAd K 0)), (1, .int v4_1), (2, .int v1_2), (3, .int v4_3)] []) ?_ fu σ1 v1_1 (v1_2 + 1) hf
    intro σ4 v4_1 v4_3 hf
    unfold f_X5_countAlike_s13 at hf
    refine g_iload_n B dX5_countAlike_13 rfl 3 rfl ?_
    refine g_iconst (v := 3) B dX5_countAlike_14 (by decide) ?_
    refine g_icmp_ge (tgt := 42) B dX5_countAlike_15 (by decide) (fun c6 => ?_) (fun c6 => ?_)
    · have hf := sat_t hf c6
      have hf := sum_r (sat_some hf)
      exact g_sub hf [0, 1, 2] rfl
    · have hf := sat_f hf c6
      refine g_iload_n B dX5_countAlike_18 rfl 1 rfl ?_
      refine g_aload_n B dX5_countAlike_19 rfl 0 rfl ?_
      refine c_get_F_parts C wf_RX5_16 dX5_countAlike_20 ?_
      refine g_iload_n B dX5_countAlike_23 rfl 2 rfl ?_
      obtain ⟨h7, hf⟩ := sat_chk hf
      refine c_aald2 C h7 dX5_countAlike_24 ?_
      refine g_aload_n B dX5_countAlike_25 rfl 0 rfl ?_
      refine c_get_F_parts C wf_RX5_16 dX5_countAlike_26 ?_
      refine g_iload_n B dX5_countAlike_29 rfl 3 rfl ?_
      obtain ⟨h8, hf⟩ := sat_chk hf
      refine c_aald2 C h8 dX5_countAlike_30 ?_
      obtain ⟨σ9, r9, h9, hf⟩ := sat_ca1 hf
      refine g_cSI (rest := [.int v4_1]) B (ck_X5_countAlikeOfTwo C h9) mo_X5_countAlikeOfTwo wm_RX5_198 (by decide) rfl rfl (Nat.le_of_ble_eq_true rfl) dX5_countAlike_31 ?_
      refine g_iadd B dX5_countAlike_34 ?_
      refine g_istore_n B [(0, .ref (kAd K 0)), (1, .int ((v4_1 + r9))), (2, .int v1_2), (3, .int v4_3)] dX5_countAlike_35 rfl (by decide) [1, 0, 2, 3] rfl ?_
      refine g_iinc B (v4_3 + 1) [(0, .ref (kAd K 0)), (1, .int ((v4_1 + r9))), (2, .int v1_2), (3, .int ((v4_3 + 1)))] dX5_countAlike_36 3 rfl rfl (by decide) [1, 2, 3, 0] rfl ?_
      refine g_goto (tgt := 13) B dX5_countAlike_39 (by decide) ?_
      have hf := sum_l (sat_some hf)
      exact g_sub hf [0, 1, 2, 3] rfl
theorem c_X5_countAlike (l : Launch) (D : va_G) (Ad : Nat → Nat) (cI cP cII : ClassId) {σ : Mm} {τ : Mm} {r : Int32} (h : f_X5_countAlike σ  = some (τ, r)) : CtI l D (tysC cI cP cII) (wdC Ad cI cP cII) StC yX5_countAlike cX5_countAlike 4 .int 2 σ [.ref (Ad 0)] (τ, r) := by
  refine metI (Ad := Ad) (cI := cI) (cP := cP) (cII := cII) (by decide) (Nat.le_of_ble_eq_true rfl) (wdG_ok _ _ _) stOK_C rfl (fun K C G hR => ?_)
  have e : kAd K = Ad := G.2.2.2.2.2.1
  have C2 := cC_of C G
  have h9 := w_X5_countAlike C2 σ  ⟨_, h, by rw [hR]; exact ⟨rfl, rfl⟩⟩
  rw [e] at h9
  exact h9
theorem ck_X5_countAlike {K : Kx} {cc : ByteArray} {own : String} {nL d : Nat} {rty : Option FieldType} (C : CxC K cc own nL d rty) {σ : Mm} {τ : Mm} {r : Int32} (h : f_X5_countAlike σ  = some (τ, r)) : CtI (kl K) (kD K) (ktys K) (kwf K) (kSt K) yX5_countAlike cX5_countAlike 4 .int 2 σ [.ref (kAd K 0)] (τ, r) := cC_eq C (P := fun l D tys wf St => CtI l D tys wf St yX5_countAlike cX5_countAlike 4 .int 2 σ [.ref (kAd K 0)] (τ, r)) (c_X5_countAlike _ _ _ _ _ _ h)
def f_X3_countDoubles_s4 (k0 : Nat) (σ1 : Mm) (v1_1 : Int32) (v1_2 : Int32) : Option ((Mm × Int32 × Int32) ⊕ (Mm × Int32)) :=
  chk (kdC k0 == 2) ((if (σ1 k0 0) ≤ v1_2 then some (.inr (σ1, v1_1)) else bn1 (f_X3_isDouble σ1 k0 v1_2) (fun σ5 r5 => (if r5 = 0 then some (.inl (σ5, v1_1, (v1_2 + 1))) else some (.inl (σ5, (v1_1 + 1), (v1_2 + 1)))))))
def f_X3_countDoubles (σ : Mm) (k0 : Nat) : Option (Mm × Int32) :=
  bn1 (lq2 (f_X3_countDoubles_s4 k0) fu σ 0 0) (fun σ2 v2_1 => some (σ2, v2_1))
set_option maxHeartbeats 4000000 in
set_option maxRecDepth 100000 in
theorem w_X3_countDoubles {K : Kx} (C : CxC K cX3_countDoubles RX3 3 1 (some .int)) (σ : Mm) (k0 : Nat) (hf : Sat (f_X3_countDoubles σ k0) (fun o => kRt K (some (.int o.2)) o.1)) : Gj K σ 0 [(0, .ref (kAd K k0))] [] := by
  unfold f_X3_countDoubles at hf
  have B := C.1
  refine g_iconst (v := 0) B dX3_countDoubles_0 (by decide) ?_
  refine g_istore_n B [(0, .ref (kAd K k0)), (1, .int 0)] dX3_countDoubles_1 rfl (by decide) [1, 0] rfl ?_
  refine g_iconst (v := 0) B dX3_countDoubles_2 (by decide) ?_
  refine g_istore_n B [(0, .ref (kAd K k0)), (1, .int 0), (2, .int 0)] dX3_countDoubles_3 rfl (by decide) [1, 2, 0] rfl ?_
  have hf := sat_cu1 (G := fun σ2 v2_1 => Gj K σ2 29 [(1, .int v2_1)] []) hf (by
    intro σ2 v2_1 hf
    refine g_iload_n B dX3_countDoubles_29 rfl 0 rfl ?_
    have hf := sat_some hf
    exact g_iret B rfl rfl dX3_countDoubles_30 hf)
  refine lqr2 (Gh := fun σ1 v1_1 v1_2 => Gj K σ1 4 [(0, .ref (kAd K k0)), (1, .int v1_1), (2, .int v1_2)] []) ?_ fu σ 0 0 hf
  intro σ1 v1_1 v1_2 hf
  unfold f_X3_countDoubles_s4 at hf
  refine g_iload_n B dX3_countDoubles_4 rfl 2 rfl ?_
  refine g_aload_n B dX3_countDoubles_5 rfl 0 rfl ?_
  obtain ⟨h3, hf⟩ := sat_chk hf
  refine c_get_P_count C (eq_of_beq h3) wf_RX3_40 dX3_countDoubles_6 ?_
  refine g_icmp_ge (tgt := 29) B dX3_countDoubles_9 (by decide) (fun c4 => ?_) (fun c4 => ?_)
  · have hf := sat_t hf c4
    have hf := sum_r (sat_some hf)
    exact g_sub hf [1] rfl
  · have hf := sat_f hf c4
    refine g_aload_n B dX3_countDoubles_12 rfl 0 rfl ?_
    refine g_iload_n B dX3_countDoubles_13 rfl 2 rfl ?_
    obtain ⟨σ5, r5, h5, hf⟩ := sat_ca1 hf
    refine g_cVI (rest := []) B (ck_X3_isDouble C h5) mo_X3_isDouble wm_RX3_52 (by decide) (cC_o2 C (eq_of_beq h3)) rfl rfl rfl (Nat.le_of_ble_eq_true rfl) dX3_countDoubles_14 ?_
    refine g_if_eq (tgt := 23) B dX3_countDoubles_17 (by decide) (fun c6 => ?_) (fun c6 => ?_)
    · have hf := sat_t hf c6
      refine g_iinc B (v1_2 + 1) [(0, .ref (kAd K k0)), (1, .int v1_1), (2, .int ((v1_2 + 1)))] dX3_countDoubles_23 2 rfl rfl (by decide) [1, 2, 0] rfl ?_
      refine g_goto (tgt := 4) B dX3_countDoubles_26 (by decide) ?_
      have hf := sum_l (sat_some hf)
      exact g_sub hf [0, 1, 2] rfl
    · have hf := sat_f hf c6
      refine g_iinc B (v1_1 + 1) [(0, .ref (kAd K k0)), (1, .int ((v1_1 + 1))), (2, .int v1_2)] dX3_countDoubles_20 1 rfl rfl (by decide) [1, 0, 2] rfl ?_
      refine g_iinc B (v1_2 + 1) [(0, .ref (kAd K k0)), (1, .int ((v1_1 + 1))), (2, .int ((v1_2 + 1)))] dX3_countDoubles_23 2 rfl rfl (by decide) [1, 2, 0] rfl ?_
      refine g_goto (tgt := 4) B dX3_countDoubles_26 (by decide) ?_
      have hf := sum_l (sat_some hf)
      exact g_sub hf [0, 1, 2] rfl
theorem c_X3_countDoubles (l : Launch) (D : va_G) (Ad : Nat → Nat) (cI cP cII : ClassId) {σ : Mm} {k0 : Nat} {τ : Mm} {r : Int32} (h : f_X3_countDoubles σ k0 = some (τ, r)) : CtI l D (tysC cI cP cII) (wdC Ad cI cP cII) StC yX3_countDoubles cX3_countDoubles 3 .int 1 σ [.ref (Ad k0)] (τ, r) := by
  refine metI (Ad := Ad) (cI := cI) (cP := cP) (cII := cII) (by decide) (Nat.le_of_ble_eq_true rfl) (wdG_ok _ _ _) stOK_C rfl (fun K C G hR => ?_)
  have e : kAd K = Ad := G.2.2.2.2.2.1
  have C2 := cC_of C G
  have h9 := w_X3_countDoubles C2 σ k0 ⟨_, h, by rw [hR]; exact ⟨rfl, rfl⟩⟩
  rw [e] at h9
  exact h9
theorem ck_X3_countDoubles {K : Kx} {cc : ByteArray} {own : String} {nL d : Nat} {rty : Option FieldType} (C : CxC K cc own nL d rty) {σ : Mm} {k0 : Nat} {τ : Mm} {r : Int32} (h : f_X3_countDoubles σ k0 = some (τ, r)) : CtI (kl K) (kD K) (ktys K) (kwf K) (kSt K) yX3_countDoubles cX3_countDoubles 3 .int 1 σ [.ref (kAd K k0)] (τ, r) := cC_eq C (P := fun l D tys wf St => CtI l D tys wf St yX3_countDoubles cX3_countDoubles 3 .int 1 σ [.ref (kAd K k0)] (τ, r)) (c_X3_countDoubles _ _ _ _ _ _ h)
