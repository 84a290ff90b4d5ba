/-! SiblingJoinsModel: the constructor, pullAll -/
theorem Rz_0 : Rz (fun _ => 0) gS0 := ⟨fun _ _ _ => ⟨fun _ _ _ => rfl, fun _ _ _ _ _ _ => rfl, fun _ _ _ _ _ _ => rfl, fun _ _ _ => ⟨rfl, fun p y hy => by cases hy⟩⟩, fun _ _ _ => rfl⟩
theorem gIv_0 : gIv gS0 := fun _ _ _ => ⟨fun _ _ _ => List.Pairwise.nil, fun _ _ _ y hy => absurd hy List.not_mem_nil⟩
set_option maxRecDepth 100000 in
set_option maxHeartbeats 4000000 in
theorem c_X5_init {E : gEnv} {n : Nat} {σ : Option Nat} {h : gH} (m : Nat) (hcn : m + 1 = gB E + n) (hcb : gB E ≤ m) (hc : h m = gO 5 [.null, .null, .null, .int 0, .null, .int 0, .int 0, .null, .int 0, .int 0, .int 0, .int 0, .int 0, .null, .int 0, .long 0]) : gM E mX5_init [.ref m] n (some (gB E + n)) h (gD none (n + 6) (some (gB E + (n + 6))) (fun h9 => isM E h9 m gT0 0 ∧ ∀ q : Nat, q < m → h9 q = h q)) (gNo) := by
  refine gM_of (by decide) (Nat.le_of_ble_eq_true rfl) (fun F C => ?_)
  refine g_aload_n 1 C dX5_init_0 rfl rfl ?_
  refine g_objInit 4 C dX5_init_1 rfl sp_RX5_1 (by decide) (Nat.le_of_ble_eq_true rfl) rfl ?_
  refine g_aload_n 5 C dX5_init_4 rfl rfl ?_
  refine g_sipush 8 C dX5_init_5 (by decide) rfl ?_
  refine g_newai (m := 311) 10 C dX5_init_8 (by omega) (by decide) (by decide) rfl ?_
  refine g_putF 13 C dX5_init_10 fp_RX5_7 rfl rfl (by omega) ((up_n (by omega)).trans hc) rfl rfl (Nat.le_of_ble_eq_true rfl) rfl ?_
  refine g_aload_n 14 C dX5_init_13 rfl rfl ?_
  refine g_sipush 17 C dX5_init_14 (by decide) rfl ?_
  refine g_newai (m := 311) 19 C dX5_init_17 (by omega) (by decide) (by decide) rfl ?_
  refine g_putF 22 C dX5_init_19 fp_RX5_13 rfl rfl (by omega) ((up_n (by omega)).trans up_s) rfl rfl (Nat.le_of_ble_eq_true rfl) rfl ?_
  refine g_aload_n 23 C dX5_init_22 rfl rfl ?_
  refine g_sipush 26 C dX5_init_23 (by decide) rfl ?_
  refine g_newai (m := 1866) 28 C dX5_init_26 (by omega) (by decide) (by decide) rfl ?_
  refine g_putF 31 C dX5_init_28 fp_RX5_16 rfl rfl (by omega) ((up_n (by omega)).trans up_s) rfl rfl (Nat.le_of_ble_eq_true rfl) rfl ?_
  refine g_aload_n 32 C dX5_init_31 rfl rfl ?_
  refine g_bipush 34 C dX5_init_32 (by decide) rfl ?_
  refine g_newai (m := 60) 36 C dX5_init_34 (by omega) (by decide) (by decide) rfl ?_
  refine g_putF 39 C dX5_init_36 fp_RX5_19 rfl rfl (by omega) ((up_n (by omega)).trans up_s) rfl rfl (Nat.le_of_ble_eq_true rfl) rfl ?_
  refine g_aload_n 40 C dX5_init_39 rfl rfl ?_
  refine g_bipush 42 C dX5_init_40 (by decide) rfl ?_
  refine g_newai (m := 36) 44 C dX5_init_42 (by omega) (by decide) (by decide) rfl ?_
  refine g_putF 47 C dX5_init_44 fp_RX5_22 rfl rfl (by omega) ((up_n (by omega)).trans up_s) rfl rfl (Nat.le_of_ble_eq_true rfl) rfl ?_
  refine g_aload_n 48 C dX5_init_47 rfl rfl ?_
  refine g_bipush 50 C dX5_init_48 (by decide) rfl ?_
  refine g_newai (m := 60) 52 C dX5_init_50 (by omega) (by decide) (by decide) rfl ?_
  refine g_putF 55 C dX5_init_52 fp_RX5_25 rfl rfl (by omega) ((up_n (by omega)).trans up_s) rfl rfl (Nat.le_of_ble_eq_true rfl) rfl ?_
  refine g_aload_n 56 C dX5_init_55 rfl rfl ?_
  refine g_iconst 57 C dX5_init_56 rfl ?_
  refine g_putf 60 C dX5_init_57 fp_RX5_28 rfl (by omega) up_s rfl rfl (Nat.le_of_ble_eq_true rfl) rfl ?_
  exact g_vret C dX5_init_60 rfl ⟨by decide, by decide⟩ (by
      refine ⟨rfl, rfl, rfl, ⟨fun _ => 0, 0, fun _ => 0, fun _ => 0, ⟨?_, ?_, Rz_0, ⟨fun _ => 0, ?_⟩, ?_, rfl, fun i i0 i1 => absurd i1 (show ¬ i < ((0 : Nat) : Int) by omega), ⟨fun _ => 0, ?_, fun _ _ _ => rfl⟩, rfl, ⟨fun _ => 0, ?_⟩, ⟨fun _ => 0, ?_⟩⟩, rfl⟩, fun q hq => ?_⟩
      · show va_up _ _ _ _ = _
        rw [up_e rfl, show gB E + n = m + 1 by omega, show gB E + (n + 1) = m + 2 by omega, show gB E + (n + 1 + 1) = m + 3 by omega, show gB E + (n + 1 + 1 + 1) = m + 4 by omega, show gB E + (n + 1 + 1 + 1 + 1) = m + 5 by omega, show gB E + (n + 1 + 1 + 1 + 1 + 1) = m + 6 by omega]
        rfl
      · rw [up_n (by omega), up_n (by omega), up_n (by omega), up_n (by omega), up_n (by omega), up_n (by omega), up_n (by omega), up_n (by omega), up_n (by omega), up_n (by omega), up_n (by omega), up_n (by omega), up_e (by omega)]
      · rw [up_n (by omega), up_n (by omega), up_n (by omega), up_n (by omega), up_n (by omega), up_n (by omega), up_n (by omega), up_n (by omega), up_n (by omega), up_n (by omega), up_e (by omega)]
      · rw [up_n (by omega), up_n (by omega), up_n (by omega), up_n (by omega), up_n (by omega), up_n (by omega), up_n (by omega), up_n (by omega), up_e (by omega)]
      · rw [up_n (by omega), up_n (by omega), up_n (by omega), up_n (by omega), up_n (by omega), up_n (by omega), up_e (by omega)]
      · rw [up_n (by omega), up_n (by omega), up_n (by omega), up_n (by omega), up_e (by omega)]
      · rw [up_n (by omega), up_n (by omega), up_e (by omega)]
      · rw [up_n (by omega), up_n (by omega), up_n (by omega), up_n (by omega), up_n (by omega), up_n (by omega), up_n (by omega), up_n (by omega), up_n (by omega), up_n (by omega), up_n (by omega), up_n (by omega), up_n (by omega)])
