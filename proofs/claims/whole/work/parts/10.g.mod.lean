/-! the model's constructor -/
section MODG
variable {G : wG} {M : aM}
theorem cM_init (h33 : M 33 = some (.inr (4, [.null, .null, .int 0, .null, .int 0, .null, .int 0, .int 0, .null, .null, .null, .int 0, .int 0, .int 0, .int 0, .null, .int 0, .int 0]))) : Mt G 1 mtM_init [.ref 33] M 33 8 571 (fun v M' n' => v = none ∧ n' = 41 ∧ fM M M' ∧ refX M' [] 0 (fun _ => []) 0 0 0 0 0 (fun _ => []) (fun _ => 0) (fun _ => false)) := by
  refine Mt.of rfl rfl (Nat.le_of_ble_eq_true rfl) ?_
  refine V_aload_n dM_init_0 rfl ?_
  refine V_obj dM_init_1 obM_1 ob_w (by decide) (Nat.le_of_ble_eq_true rfl) ?_
  refine V_aload_n dM_init_4 rfl ?_
  refine V_sipush (v := 280) dM_init_5 (by decide) ?_
  refine V_newI 280 7 291 dM_init_8 (by decide) (by decide) (by decide) ?_
  refine V_putF dM_init_10 fM_7 rfl (hU_at (by decide) h33) rfl rfl (Nat.le_of_ble_eq_true rfl) ?_
  refine V_aload_n dM_init_13 rfl ?_
  refine V_bipush (v := 7) dM_init_14 (by decide) ?_
  refine V_newI 7 6 284 dM_init_16 (by decide) (by decide) (by decide) ?_
  refine V_putF dM_init_18 fM_13 rfl (hU_at (by decide) (hU_eq _ _ _)) rfl rfl (Nat.le_of_ble_eq_true rfl) ?_
  refine V_aload_n dM_init_21 rfl ?_
  refine V_bipush (v := 40) dM_init_22 (by decide) ?_
  refine V_newI 40 5 244 dM_init_24 (by decide) (by decide) (by decide) ?_
  refine V_putF dM_init_26 fM_16 rfl (hU_at (by decide) (hU_eq _ _ _)) rfl rfl (Nat.le_of_ble_eq_true rfl) ?_
  refine V_aload_n dM_init_29 rfl ?_
  refine V_sipush (v := 128) dM_init_30 (by decide) ?_
  refine V_newI 128 4 116 dM_init_33 (by decide) (by decide) (by decide) ?_
  refine V_putF dM_init_35 fM_19 rfl (hU_at (by decide) (hU_eq _ _ _)) rfl rfl (Nat.le_of_ble_eq_true rfl) ?_
  refine V_aload_n dM_init_38 rfl ?_
  refine V_bipush (v := 80) dM_init_39 (by decide) ?_
  refine V_newI 80 3 36 dM_init_41 (by decide) (by decide) (by decide) ?_
  refine V_putF dM_init_43 fM_22 rfl (hU_at (by decide) (hU_eq _ _ _)) rfl rfl (Nat.le_of_ble_eq_true rfl) ?_
  refine V_aload_n dM_init_46 rfl ?_
  refine V_iconst (v := 2) dM_init_47 (by decide) ?_
  refine V_newI 2 2 34 dM_init_48 (by decide) (by decide) (by decide) ?_
  refine V_putF dM_init_50 fM_25 rfl (hU_at (by decide) (hU_eq _ _ _)) rfl rfl (Nat.le_of_ble_eq_true rfl) ?_
  refine V_aload_n dM_init_53 rfl ?_
  refine V_iconst (v := 2) dM_init_54 (by decide) ?_
  refine V_newI 2 1 32 dM_init_55 (by decide) (by decide) (by decide) ?_
  refine V_putF dM_init_57 fM_28 rfl (hU_at (by decide) (hU_eq _ _ _)) rfl rfl (Nat.le_of_ble_eq_true rfl) ?_
  refine V_aload_n dM_init_60 rfl ?_
  refine V_bipush (v := 32) dM_init_61 (by decide) ?_
  refine V_newZ 32 0 0 dM_init_63 (by decide) (by decide) (by decide) ?_
  refine V_putF dM_init_65 fM_31 rfl (hU_at (by decide) (hU_eq _ _ _)) rfl rfl (Nat.le_of_ble_eq_true rfl) ?_
  refine V_vret dM_init_68 rfl ⟨rfl, rfl, fun q hq => ?_, [], 0, 0, ⟨hU_eq _ _ _, ⟨fun _ => 0, fun _ => 0, ?_, ?_, fun v hv i hi => by simp at hi, fun v hv => rfl⟩, ⟨fun _ => 0, ?_, fun i hi => by simp at hi⟩, ⟨fun _ => 0, ?_, fun i hi => by simp at hi⟩, ⟨fun _ => 0, fun _ => 0, ?_, ?_, fun s hs i hi => by simp at hi, fun s hs => rfl⟩, ⟨fun _ => 0, ?_, fun s hs => rfl⟩, ⟨fun _ => 0, ?_, fun i hi => rfl⟩⟩, by decide, fun z => by have z : uwP 0 := z; omega⟩
  · repeat rw [hU_ne (by omega)]
  · rfl
  · rfl
  · rfl
  · rfl
  · rfl
  · rfl
  · rfl
  · rfl
end MODG
