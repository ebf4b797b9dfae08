theorem dX12_areHoused_0 : decode cX12_areHoused 0 = .ok (.iconst 0, 1) := by decide +kernel
theorem dX12_areHoused_1 : decode cX12_areHoused 1 = .ok (.istore_n 1, 1) := by decide +kernel
theorem dX12_areHoused_2 : decode cX12_areHoused 2 = .ok (.iload_n 1, 1) := by decide +kernel
theorem dX12_areHoused_3 : decode cX12_areHoused 3 = .ok (.bipush 8, 2) := by decide +kernel
theorem dX12_areHoused_5 : decode cX12_areHoused 5 = .ok (.if_icmp .ge 75, 3) := by decide +kernel
theorem dX12_areHoused_8 : decode cX12_areHoused 8 = .ok (.iconst 0, 1) := by decide +kernel
theorem dX12_areHoused_9 : decode cX12_areHoused 9 = .ok (.istore_n 2, 1) := by decide +kernel
theorem dX12_areHoused_10 : decode cX12_areHoused 10 = .ok (.iconst 0, 1) := by decide +kernel
theorem dX12_areHoused_11 : decode cX12_areHoused 11 = .ok (.istore_n 3, 1) := by decide +kernel
theorem dX12_areHoused_12 : decode cX12_areHoused 12 = .ok (.iload_n 3, 1) := by decide +kernel
theorem dX12_areHoused_13 : decode cX12_areHoused 13 = .ok (.aload_n 0, 1) := by decide +kernel
theorem dX12_areHoused_14 : decode cX12_areHoused 14 = .ok (.getfield 267, 3) := by decide +kernel
theorem dX12_areHoused_17 : decode cX12_areHoused 17 = .ok (.if_icmp .ge 31, 3) := by decide +kernel
theorem dX12_areHoused_20 : decode cX12_areHoused 20 = .ok (.iload_n 2, 1) := by decide +kernel
theorem dX12_areHoused_21 : decode cX12_areHoused 21 = .ok (.aload_n 0, 1) := by decide +kernel
theorem dX12_areHoused_22 : decode cX12_areHoused 22 = .ok (.getfield 43, 3) := by decide +kernel
theorem dX12_areHoused_25 : decode cX12_areHoused 25 = .ok (.iconst 4, 1) := by decide +kernel
theorem dX12_areHoused_26 : decode cX12_areHoused 26 = .ok (.iload_n 3, 1) := by decide +kernel
theorem dX12_areHoused_27 : decode cX12_areHoused 27 = .ok (.imul, 1) := by decide +kernel
theorem dX12_areHoused_28 : decode cX12_areHoused 28 = .ok (.iconst 1, 1) := by decide +kernel
theorem dX12_areHoused_29 : decode cX12_areHoused 29 = .ok (.iadd, 1) := by decide +kernel
theorem dX12_areHoused_30 : decode cX12_areHoused 30 = .ok (.iaload, 1) := by decide +kernel
theorem dX12_areHoused_31 : decode cX12_areHoused 31 = .ok (.iload_n 1, 1) := by decide +kernel
theorem dX12_areHoused_32 : decode cX12_areHoused 32 = .ok (.if_icmp .ne 7, 3) := by decide +kernel
theorem dX12_areHoused_35 : decode cX12_areHoused 35 = .ok (.iconst 1, 1) := by decide +kernel
theorem dX12_areHoused_36 : decode cX12_areHoused 36 = .ok (.goto 4, 3) := by decide +kernel
theorem dX12_areHoused_39 : decode cX12_areHoused 39 = .ok (.iconst 0, 1) := by decide +kernel
theorem dX12_areHoused_40 : decode cX12_areHoused 40 = .ok (.iadd, 1) := by decide +kernel
theorem dX12_areHoused_41 : decode cX12_areHoused 41 = .ok (.istore_n 2, 1) := by decide +kernel
theorem dX12_areHoused_42 : decode cX12_areHoused 42 = .ok (.iinc 3 1, 3) := by decide +kernel
theorem dX12_areHoused_45 : decode cX12_areHoused 45 = .ok (.goto (-33), 3) := by decide +kernel
theorem dX12_areHoused_48 : decode cX12_areHoused 48 = .ok (.iload_n 2, 1) := by decide +kernel
theorem dX12_areHoused_49 : decode cX12_areHoused 49 = .ok (.iload_n 1, 1) := by decide +kernel
theorem dX12_areHoused_50 : decode cX12_areHoused 50 = .ok (.aload_n 0, 1) := by decide +kernel
theorem dX12_areHoused_51 : decode cX12_areHoused 51 = .ok (.getfield 264, 3) := by decide +kernel
theorem dX12_areHoused_54 : decode cX12_areHoused 54 = .ok (.if_icmp .ge 14, 3) := by decide +kernel
theorem dX12_areHoused_57 : decode cX12_areHoused 57 = .ok (.aload_n 0, 1) := by decide +kernel
theorem dX12_areHoused_58 : decode cX12_areHoused 58 = .ok (.getfield 40, 3) := by decide +kernel
theorem dX12_areHoused_61 : decode cX12_areHoused 61 = .ok (.iconst 4, 1) := by decide +kernel
theorem dX12_areHoused_62 : decode cX12_areHoused 62 = .ok (.iload_n 1, 1) := by decide +kernel
theorem dX12_areHoused_63 : decode cX12_areHoused 63 = .ok (.imul, 1) := by decide +kernel
theorem dX12_areHoused_64 : decode cX12_areHoused 64 = .ok (.iaload, 1) := by decide +kernel
theorem dX12_areHoused_65 : decode cX12_areHoused 65 = .ok (.goto 4, 3) := by decide +kernel
theorem dX12_areHoused_68 : decode cX12_areHoused 68 = .ok (.iconst 0, 1) := by decide +kernel
theorem dX12_areHoused_69 : decode cX12_areHoused 69 = .ok (.if_icmp .le 5, 3) := by decide +kernel
theorem dX12_areHoused_72 : decode cX12_areHoused 72 = .ok (.iconst 0, 1) := by decide +kernel
theorem dX12_areHoused_73 : decode cX12_areHoused 73 = .ok (.ireturn, 1) := by decide +kernel
theorem dX12_areHoused_74 : decode cX12_areHoused 74 = .ok (.iinc 1 1, 3) := by decide +kernel
theorem dX12_areHoused_77 : decode cX12_areHoused 77 = .ok (.goto (-75), 3) := by decide +kernel
theorem dX12_areHoused_80 : decode cX12_areHoused 80 = .ok (.iconst 1, 1) := by decide +kernel
theorem dX12_areHoused_81 : decode cX12_areHoused 81 = .ok (.ireturn, 1) := by decide +kernel
def w_X12_areHoused : List Cond := .code yX12_areHoused cX12_areHoused 4 (some .boolean) :: ([Cond.fieldLink RX12 267 "HeadYearModel" "readFamilies" "I", Cond.fieldLink RX12 264 "HeadYearModel" "readLevels" "I", Cond.fieldLink RX12 40 "HeadYearModel" "readLevel" "[I", Cond.fieldLink RX12 43 "HeadYearModel" "readFamily" "[I"] ++ (u_ws RX12 TX12 54 ++ ([])))
theorem in_X12_areHoused_X12 : ∀ w ∈ u_ws RX12 TX12 54, w ∈ w_X12_areHoused := fun _ h => List.mem_cons_of_mem _ (List.mem_append_right _ (List.mem_append_left _ h))
set_option maxHeartbeats 4000000 in
set_option maxRecDepth 100000 in
theorem c_X12_areHoused (l : Launch) (E : py_E) (G : wf_G) (L : List Nat) (f : py_F) (sz : Nat) (u : Nat) (sb : rv_S) (hG : GT G) (hWF : WF E G L f) (Tu : G.1 u = 13) (hq0 : RD f G u sb) : Met l yX12_areHoused w_X12_areHoused ({ frames := 0, cells := 0, slots := 0, locals := 0 }) (py_Pc E [.ref u] L f sz) (py_Qi E L f sz (fun r L1 f1 => (0 ≤ r.toInt ∧ r.toInt ≤ 1) ∧ (r.toInt ≠ 0 → AH sb) ∧ (r.toInt = 0 → ¬ AH sb) ∧ L = L1 ∧ f = f1)) 0 0 (va_A (va_pl L f) sz) := by
  refine Met.ofW (cc := cX12_areHoused) (maxL := 4) (ret := (some .boolean)) (by decide) rfl ?_
  intro p e s m args below meth c s₁ B hml hv
  obtain ⟨rfl, rfl, hw⟩ := py_start hv
  have G0 : CallFix p m c cX12_areHoused 4 s _ w_X12_areHoused RX12 := ⟨B.exec, B.bytes, hml, findClass_of_methodNamed B.named, atoms_spec (ws := w_X12_areHoused) B.pre⟩
  have hr := B.returns
  have hlk := B.notSynchronized
  have kcm1 : (-1 : Int32).toInt = -1 := rfl
  have kc0 : (0 : Int32).toInt = 0 := rfl
  have kc1 : (1 : Int32).toInt = 1 := rfl
  have kc4 : (4 : Int32).toInt = 4 := rfl
  have kc8 : (8 : Int32).toInt = 8 := rfl
  have hl := lv_entry ([.ref u]) (n := 4) (Nat.le_of_ble_eq_true rfl)
  rw [lg_entry_eq]
  generalize (lg_sl ([.ref u]) ++ List.replicate (4 - (lg_sl ([.ref u])).length) Slot.unset).toArray = ls at hl ⊢
  have hl : lv_has ls 4 [(0, .ref u)] := hl
  have hV1 := hq0.1
  obtain ⟨v_1, v_2, v_3, v_4, v_5, v_6, v_7, v_8, v_9, v_10, v_11, v_12, y_13, v_14, v_15, v_16, v_17, v_18, y_19, v_20, y_21, v_22, hr_35, b_23, b_24, b_25, b_26, b_27, b_28, b_29, b_30, b_31, b_32, b_33, b_34⟩ := wg_12 hWF Tu
  have tq_36 := mi_row hr_35 19 rfl
  have tq_37 := mi_row hr_35 20 rfl
  refine lv_iconst (v := 0) G0.1 G0.2.1 dX12_areHoused_0 (by decide) ?_
  refine lv_istore_n (lv' := [(1, .int 0), (0, .ref u)]) G0.1 G0.2.1 dX12_areHoused_1 rfl hl (by decide) rfl (fun ls hl => ?_)
  have lo_2 : ∀ n_2 : Nat, ∀ (v_38 : Int32) (H_j2 : Heap) (locs : List Loc) (ls : Array Slot), (2147483647 - v_38.toInt).toNat = n_2 → (0 ≤ v_38.toInt ∧ v_38.toInt ≤ 8) → (∀ v : Int, 0 ≤ v → v < v_38.toInt → rv_cn sb.2.2 v sb.1.2.toNat ≤ (if v < sb.1.1 then sb.2.1 v else 0)) → py_W E (va_A (va_pl L f) s.heap.size) s L f H_j2 locs → lv_has ls 4 [(1, .int v_38), (0, .ref u)] → W p l e (headSpec w_X12_areHoused ({ frames := 0, cells := 0, slots := 0, locals := 0 })).room s m ([.ref u] : List Value).toArray below meth c H_j2 locs 0 0 (MQ below (py_Qi E L f s.heap.size (fun r L1 f1 => (0 ≤ r.toInt ∧ r.toInt ≤ 1) ∧ (r.toInt ≠ 0 → AH sb) ∧ (r.toInt = 0 → ¬ AH sb) ∧ L = L1 ∧ f = f1)) ([.ref u] : List Value).toArray s 0 0 (va_A (va_pl L f) s.heap.size)) (F0 m 2 ls []) := by
    intro n_2
    induction n_2 using Nat.strongRecOn with
    | _ n_2 ih_2 =>
      intro v_38 H_j2 locs ls hn_2 bv_38 iv0 hw hl
      refine lv_iload_n G0.1 G0.2.1 dX12_areHoused_2 rfl (lv_at hl 0 rfl) ?_
      refine lv_bipush (v := 8) G0.1 G0.2.1 dX12_areHoused_3 (by decide) ?_
      refine lv_icmp_ge (tgt := 80) G0.1 G0.2.1 dX12_areHoused_5 (by decide) (fun c_39 => ?_) (fun c_39 => ?_)
      · skip
        have tc_39 := ti_le c_39
        refine lv_iconst (v := 1) G0.1 G0.2.1 dX12_areHoused_80 (by decide) ?_
        exact py_iret G0 hr rfl hlk hw ⟨⟨by omega, by omega⟩, (fun _ i h0 h1 => iv0 i h0 (by omega)), (fun q => absurd q (by omega)), rfl, rfl⟩ dX12_areHoused_81
      · skip
        have tc_39 := ti_nle c_39
        refine lv_iconst (v := 0) G0.1 G0.2.1 dX12_areHoused_8 (by decide) ?_
        refine lv_istore_n (lv' := [(2, .int 0), (1, .int v_38), (0, .ref u)]) G0.1 G0.2.1 dX12_areHoused_9 rfl hl (by decide) rfl (fun ls hl => ?_)
        refine lv_iconst (v := 0) G0.1 G0.2.1 dX12_areHoused_10 (by decide) ?_
        refine lv_istore_n (lv' := [(3, .int 0), (2, .int 0), (1, .int v_38), (0, .ref u)]) G0.1 G0.2.1 dX12_areHoused_11 rfl hl (by decide) rfl (fun ls hl => ?_)
        have lo_12 : ∀ n_12 : Nat, ∀ (v_40 : Int32) (v_41 : Int32) (H_j12 : Heap) (locs : List Loc) (ls : Array Slot), (2147483647 - v_40.toInt).toNat = n_12 → (0 ≤ v_40.toInt ∧ v_40.toInt ≤ 2147483647) → (∀ v : Int, 0 ≤ v → v < v_38.toInt → rv_cn sb.2.2 v sb.1.2.toNat ≤ (if v < sb.1.1 then sb.2.1 v else 0)) → (v_41.toInt ≤ v_40.toInt ∧ v_40.toInt ≤ sb.1.2) → (v_41.toInt = rv_cn sb.2.2 v_38.toInt v_40.toInt.toNat) → py_W E (va_A (va_pl L f) s.heap.size) s L f H_j12 locs → lv_has ls 4 [(3, .int v_40), (2, .int v_41), (1, .int v_38), (0, .ref u)] → W p l e (headSpec w_X12_areHoused ({ frames := 0, cells := 0, slots := 0, locals := 0 })).room s m ([.ref u] : List Value).toArray below meth c H_j12 locs 0 0 (MQ below (py_Qi E L f s.heap.size (fun r L1 f1 => (0 ≤ r.toInt ∧ r.toInt ≤ 1) ∧ (r.toInt ≠ 0 → AH sb) ∧ (r.toInt = 0 → ¬ AH sb) ∧ L = L1 ∧ f = f1)) ([.ref u] : List Value).toArray s 0 0 (va_A (va_pl L f) s.heap.size)) (F0 m 12 ls []) := by
          intro n_12
          induction n_12 using Nat.strongRecOn with
          | _ n_12 ih_12 =>
            intro v_40 v_41 H_j12 locs ls hn_12 bv_40 iv0 iv1 iv2 hw hl
            refine lv_iload_n G0.1 G0.2.1 dX12_areHoused_12 rfl (lv_at hl 0 rfl) ?_
            refine lv_aload_n G0.1 G0.2.1 dX12_areHoused_13 rfl (lv_at hl 3 rfl) ?_
            refine py_get (C := RX12) (T := TX12) (N := 54) (k := 20) (v := .int v_9) G0 hw in_X12_areHoused_X12 rfl hr_35 (by decide) (by decide +kernel) rfl dX12_areHoused_14 ?_
            refine lv_icmp_ge (tgt := 48) G0.1 G0.2.1 dX12_areHoused_17 (by decide) (fun c_42 => ?_) (fun c_42 => ?_)
            · skip
              have tc_42 := ti_le c_42
              have hcn : v_41.toInt = rv_cn sb.2.2 v_38.toInt sb.1.2.toNat := by rw [iv2, show v_40.toInt = sb.1.2 by omega]
              refine lv_iload_n G0.1 G0.2.1 dX12_areHoused_48 rfl (lv_at hl 1 rfl) ?_
              refine lv_iload_n G0.1 G0.2.1 dX12_areHoused_49 rfl (lv_at hl 2 rfl) ?_
              refine lv_aload_n G0.1 G0.2.1 dX12_areHoused_50 rfl (lv_at hl 3 rfl) ?_
              refine py_get (C := RX12) (T := TX12) (N := 54) (k := 19) (v := .int v_8) G0 hw in_X12_areHoused_X12 rfl hr_35 (by decide) (by decide +kernel) rfl dX12_areHoused_51 ?_
              refine lv_icmp_ge (tgt := 68) G0.1 G0.2.1 dX12_areHoused_54 (by decide) (fun c_43 => ?_) (fun c_43 => ?_)
              · skip
                have tc_43 := ti_le c_43
                refine lv_iconst (v := 0) G0.1 G0.2.1 dX12_areHoused_68 (by decide) ?_
                refine lv_icmp_le (tgt := 74) G0.1 G0.2.1 dX12_areHoused_69 (by decide) (fun c_44 => ?_) (fun c_44 => ?_)
                · skip
                  have tc_44 := ti_le c_44
                  obtain ⟨x_45, ex_45⟩ : ∃ y : Int32, y = v_38 + 1 := ⟨_, rfl⟩
                  first | have tx_45 := ti_add ex_45 (by omega -splitDisjunctions) (by omega -splitDisjunctions) | skip
                  refine lv_iinc (v := x_45) (lv' := [(1, .int x_45), (3, .int v_40), (2, .int v_41), (0, .ref u)]) G0.1 G0.2.1 dX12_areHoused_74 hl (k := 2) rfl (show _ + (1 : Int32) = _ from ex_45.symm) (by decide) rfl (fun ls hl => ?_)
                  refine lv_goto (tgt := 2) G0.1 G0.2.1 dX12_areHoused_77 (by decide) ?_
                  exact ih_2 ((2147483647 - x_45.toInt).toNat) (by omega) x_45 _ _ ls rfl ⟨by omega, by omega⟩ (fun i h0 h1 => if hz : i < v_38.toInt then iv0 i h0 hz else by obtain rfl : i = v_38.toInt := (by omega); first | (rw [if_pos (by omega)]; omega) | (rw [if_neg (by omega)]; omega)) hw (lv_sub hl [0, 3] rfl)
                · skip
                  have tc_44 := ti_nle c_44
                  refine lv_iconst (v := 0) G0.1 G0.2.1 dX12_areHoused_72 (by decide) ?_
                  exact py_iret G0 hr rfl hlk hw ⟨⟨by omega, by omega⟩, (fun q => absurd q (by omega)), (fun _ hA => by have h1 := hA v_38.toInt (by omega) (by omega); first | (rw [if_pos (by omega)] at h1; omega) | (rw [if_neg (by omega)] at h1; omega)), rfl, rfl⟩ dX12_areHoused_73
              · skip
                have tc_43 := ti_nle c_43
                refine lv_aload_n G0.1 G0.2.1 dX12_areHoused_57 rfl (lv_at hl 3 rfl) ?_
                refine py_get (C := RX12) (T := TX12) (N := 54) (k := 17) (v := .ref (G.2 u 17)) G0 hw in_X12_areHoused_X12 rfl hr_35 (by decide) (by decide +kernel) rfl dX12_areHoused_58 ?_
                refine lv_iconst (v := 4) G0.1 G0.2.1 dX12_areHoused_61 (by decide) ?_
                refine lv_iload_n G0.1 G0.2.1 dX12_areHoused_62 rfl (lv_at hl 2 rfl) ?_
                refine lv_imul G0.1 G0.2.1 dX12_areHoused_63 ?_
                refine lv_topi (fun x_46 ex_46 => ?_)
                first | have tx_46 := ti_muld ex_46 kc4 (by omega -splitDisjunctions) (by omega -splitDisjunctions) | skip
                obtain ⟨g_47, ha_48, hi_49⟩ := wf_arr (n := 32) (lo := (-2147483648)) (hi := 2147483647) hWF (wt12_17 hG Tu) (by decide) (fun _ => rfl)
                have rg_50 : vp_in x_46 32 := ti_in (by omega) (by omega)
                refine py_iald G0 hw ha_48 rg_50 dX12_areHoused_64 ?_
                refine lv_topi (fun x_51 ex_51 => ?_)
                have bx_51 := wf_free x_51
                have hhu : x_51.toInt = sb.2.1 v_38.toInt := by rw [← (hq0.2.1 v_38.toInt (by omega) (by omega)).1, show 4 * v_38.toInt = x_46.toInt by omega]; exact (arz_ld ha_48 ex_51).symm
                refine lv_goto (tgt := 69) G0.1 G0.2.1 dX12_areHoused_65 (by decide) ?_
                refine lv_icmp_le (tgt := 74) G0.1 G0.2.1 dX12_areHoused_69 (by decide) (fun c_52 => ?_) (fun c_52 => ?_)
                · skip
                  have tc_52 := ti_le c_52
                  obtain ⟨x_53, ex_53⟩ : ∃ y : Int32, y = v_38 + 1 := ⟨_, rfl⟩
                  first | have tx_53 := ti_add ex_53 (by omega -splitDisjunctions) (by omega -splitDisjunctions) | skip
                  refine lv_iinc (v := x_53) (lv' := [(1, .int x_53), (3, .int v_40), (2, .int v_41), (0, .ref u)]) G0.1 G0.2.1 dX12_areHoused_74 hl (k := 2) rfl (show _ + (1 : Int32) = _ from ex_53.symm) (by decide) rfl (fun ls hl => ?_)
                  refine lv_goto (tgt := 2) G0.1 G0.2.1 dX12_areHoused_77 (by decide) ?_
                  exact ih_2 ((2147483647 - x_53.toInt).toNat) (by omega) x_53 _ _ ls rfl ⟨by omega, by omega⟩ (fun i h0 h1 => if hz : i < v_38.toInt then iv0 i h0 hz else by obtain rfl : i = v_38.toInt := (by omega); first | (rw [if_pos (by omega)]; omega) | (rw [if_neg (by omega)]; omega)) hw (lv_sub hl [0, 3] rfl)
                · skip
                  have tc_52 := ti_nle c_52
                  refine lv_iconst (v := 0) G0.1 G0.2.1 dX12_areHoused_72 (by decide) ?_
                  exact py_iret G0 hr rfl hlk hw ⟨⟨by omega, by omega⟩, (fun q => absurd q (by omega)), (fun _ hA => by have h1 := hA v_38.toInt (by omega) (by omega); first | (rw [if_pos (by omega)] at h1; omega) | (rw [if_neg (by omega)] at h1; omega)), rfl, rfl⟩ dX12_areHoused_73
            · skip
              have tc_42 := ti_nle c_42
              refine lv_iload_n G0.1 G0.2.1 dX12_areHoused_20 rfl (lv_at hl 1 rfl) ?_
              refine lv_aload_n G0.1 G0.2.1 dX12_areHoused_21 rfl (lv_at hl 3 rfl) ?_
              refine py_get (C := RX12) (T := TX12) (N := 54) (k := 18) (v := .ref (G.2 u 18)) G0 hw in_X12_areHoused_X12 rfl hr_35 (by decide) (by decide +kernel) rfl dX12_areHoused_22 ?_
              refine lv_iconst (v := 4) G0.1 G0.2.1 dX12_areHoused_25 (by decide) ?_
              refine lv_iload_n G0.1 G0.2.1 dX12_areHoused_26 rfl (lv_at hl 0 rfl) ?_
              refine lv_imul G0.1 G0.2.1 dX12_areHoused_27 ?_
              refine lv_topi (fun x_54 ex_54 => ?_)
              first | have tx_54 := ti_muld ex_54 kc4 (by omega -splitDisjunctions) (by omega -splitDisjunctions) | skip
              refine lv_iconst (v := 1) G0.1 G0.2.1 dX12_areHoused_28 (by decide) ?_
              refine lv_iadd G0.1 G0.2.1 dX12_areHoused_29 ?_
              refine lv_topi (fun x_55 ex_55 => ?_)
              first | have tx_55 := ti_add ex_55 (by omega -splitDisjunctions) (by omega -splitDisjunctions) | skip
              obtain ⟨g_56, ha_57, hi_58⟩ := wf_arr (n := 40) (lo := (-2147483648)) (hi := 2147483647) hWF (wt12_18 hG Tu) (by decide) (fun _ => rfl)
              have rg_59 : vp_in x_55 40 := ti_in (by omega) (by omega)
              refine py_iald G0 hw ha_57 rg_59 dX12_areHoused_30 ?_
              refine lv_topi (fun x_60 ex_60 => ?_)
              have bx_60 := wf_free x_60
              have hcg := rv_cn_ge sb.2.2 v_38.toInt v_40.toInt.toNat
              have hho : x_60.toInt = sb.2.2 v_40.toInt := by rw [← (hq0.2.2 v_40.toInt (by omega) (by omega)).1, show 4 * v_40.toInt + 1 = x_55.toInt by omega]; exact (arz_ld ha_57 ex_60).symm
              refine lv_iload_n G0.1 G0.2.1 dX12_areHoused_31 rfl (lv_at hl 2 rfl) ?_
              refine lv_icmp_ne (tgt := 39) G0.1 G0.2.1 dX12_areHoused_32 (by decide) (fun c_61 => ?_) (fun c_61 => ?_)
              · skip
                have tc_61 := ti_ne c_61
                refine lv_iconst (v := 0) G0.1 G0.2.1 dX12_areHoused_39 (by decide) ?_
                refine lv_iadd G0.1 G0.2.1 dX12_areHoused_40 ?_
                refine lv_topi (fun x_62 ex_62 => ?_)
                first | have tx_62 := ti_add ex_62 (by omega -splitDisjunctions) (by omega -splitDisjunctions) | skip
                refine lv_istore_n (lv' := [(2, .int x_62), (3, .int v_40), (1, .int v_38), (0, .ref u)]) G0.1 G0.2.1 dX12_areHoused_41 rfl hl (by decide) rfl (fun ls hl => ?_)
                obtain ⟨x_63, ex_63⟩ : ∃ y : Int32, y = v_40 + 1 := ⟨_, rfl⟩
                first | have tx_63 := ti_add ex_63 (by omega -splitDisjunctions) (by omega -splitDisjunctions) | skip
                refine lv_iinc (v := x_63) (lv' := [(3, .int x_63), (2, .int x_62), (1, .int v_38), (0, .ref u)]) G0.1 G0.2.1 dX12_areHoused_42 hl (k := 1) rfl (show _ + (1 : Int32) = _ from ex_63.symm) (by decide) rfl (fun ls hl => ?_)
                refine lv_goto (tgt := 12) G0.1 G0.2.1 dX12_areHoused_45 (by decide) ?_
                exact ih_12 ((2147483647 - x_63.toInt).toNat) (by omega) x_63 x_62 _ _ ls rfl ⟨by omega, by omega⟩ iv0 (by first | omega | (intros; omega)) (rv_cn_st iv2 (by omega) (by omega) (by first | exact Or.inl ⟨by omega, by omega⟩ | exact Or.inr ⟨by omega, by omega⟩)) hw (lv_sub hl [0, 1, 2, 3] rfl)
              · skip
                have tc_61 := ti_eq c_61
                refine lv_iconst (v := 1) G0.1 G0.2.1 dX12_areHoused_35 (by decide) ?_
                refine lv_goto (tgt := 40) G0.1 G0.2.1 dX12_areHoused_36 (by decide) ?_
                refine lv_iadd G0.1 G0.2.1 dX12_areHoused_40 ?_
                refine lv_topi (fun x_64 ex_64 => ?_)
                first | have tx_64 := ti_add ex_64 (by omega -splitDisjunctions) (by omega -splitDisjunctions) | skip
                refine lv_istore_n (lv' := [(2, .int x_64), (3, .int v_40), (1, .int v_38), (0, .ref u)]) G0.1 G0.2.1 dX12_areHoused_41 rfl hl (by decide) rfl (fun ls hl => ?_)
                obtain ⟨x_65, ex_65⟩ : ∃ y : Int32, y = v_40 + 1 := ⟨_, rfl⟩
                first | have tx_65 := ti_add ex_65 (by omega -splitDisjunctions) (by omega -splitDisjunctions) | skip
                refine lv_iinc (v := x_65) (lv' := [(3, .int x_65), (2, .int x_64), (1, .int v_38), (0, .ref u)]) G0.1 G0.2.1 dX12_areHoused_42 hl (k := 1) rfl (show _ + (1 : Int32) = _ from ex_65.symm) (by decide) rfl (fun ls hl => ?_)
                refine lv_goto (tgt := 12) G0.1 G0.2.1 dX12_areHoused_45 (by decide) ?_
                exact ih_12 ((2147483647 - x_65.toInt).toNat) (by omega) x_65 x_64 _ _ ls rfl ⟨by omega, by omega⟩ iv0 (by first | omega | (intros; omega)) (rv_cn_st iv2 (by omega) (by omega) (by first | exact Or.inl ⟨by omega, by omega⟩ | exact Or.inr ⟨by omega, by omega⟩)) hw (lv_sub hl [0, 1, 2, 3] rfl)
        exact lo_12 _ 0 0 _ _ ls rfl ⟨by omega, by omega⟩ iv0 (by first | omega | (intros; omega)) (by rfl) hw (lv_sub hl [0, 1, 2, 3] rfl)
  exact lo_2 _ 0 _ _ ls rfl ⟨by omega, by omega⟩ (fun i h0 h1 => absurd h1 (by omega)) hw (lv_sub hl [0, 1] rfl)
