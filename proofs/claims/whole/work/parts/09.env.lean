abbrev xISE : String := "java/lang/IllegalStateException"
abbrev xIAE : String := "java/lang/IllegalArgumentException"
abbrev xIOB : String := "java/lang/IndexOutOfBoundsException"
abbrev xUOE : String := "java/lang/UnsupportedOperationException"
def n_E22 (U : State) : Prop := va_Nw (.methodLinkNest "AlloyPlans$Melt" 22 y_P_isLowEnd "AlloyPlans") U
theorem n_E22_w {s U : State} (hW : s.WarmedH U.vm) (h : n_E22 s) : n_E22 U := va_Nw.warmM hW h
theorem n_E22_s {s U : State} (hv : s.vm = U.vm) (h : n_E22 s) : n_E22 U := va_Nw.same rfl hv h
def n_A35 (U : State) : Prop := va_Nw (.methodLinkNest "AlloyPlans$Alloy" 35 y_P_surplusAt "AlloyPlans") U
theorem n_A35_w {s U : State} (hW : s.WarmedH U.vm) (h : n_A35 s) : n_A35 U := va_Nw.warmM hW h
theorem n_A35_s {s U : State} (hv : s.vm = U.vm) (h : n_A35 s) : n_A35 U := va_Nw.same rfl hv h
def n_E33 (U : State) : Prop := va_Nw (.methodLinkNest "AlloyPlans$Melt" 33 y_P_surplusAt "AlloyPlans") U
theorem n_E33_w {s U : State} (hW : s.WarmedH U.vm) (h : n_E33 s) : n_E33 U := va_Nw.warmM hW h
theorem n_E33_s {s U : State} (hv : s.vm = U.vm) (h : n_E33 s) : n_E33 U := va_Nw.same rfl hv h
def n_cISE (U : State) : Prop := va_Nw (.castable xISE xISE) U
theorem n_cISE_w {s U : State} (hW : s.WarmedH U.vm) (h : n_cISE s) : n_cISE U := va_Nw.warmC hW h
theorem n_cISE_s {s U : State} (hv : s.vm = U.vm) (h : n_cISE s) : n_cISE U := va_Nw.same rfl hv h
def n_cIAE (U : State) : Prop := va_Nw (.castable xIAE xIAE) U
theorem n_cIAE_w {s U : State} (hW : s.WarmedH U.vm) (h : n_cIAE s) : n_cIAE U := va_Nw.warmC hW h
theorem n_cIAE_s {s U : State} (hv : s.vm = U.vm) (h : n_cIAE s) : n_cIAE U := va_Nw.same rfl hv h
def n_cIOB (U : State) : Prop := va_Nw (.castable xIOB xIOB) U
theorem n_cIOB_w {s U : State} (hW : s.WarmedH U.vm) (h : n_cIOB s) : n_cIOB U := va_Nw.warmC hW h
theorem n_cIOB_s {s U : State} (hv : s.vm = U.vm) (h : n_cIOB s) : n_cIOB U := va_Nw.same rfl hv h
def n_cUOE (U : State) : Prop := va_Nw (.castable xUOE xUOE) U
theorem n_cUOE_w {s U : State} (hW : s.WarmedH U.vm) (h : n_cUOE s) : n_cUOE U := va_Nw.warmC hW h
theorem n_cUOE_s {s U : State} (hv : s.vm = U.vm) (h : n_cUOE s) : n_cUOE U := va_Nw.same rfl hv h
def n_dRuntimeException (U : State) : Prop := va_Nw (.declares ⟨"java/lang/RuntimeException", "<init>", "(Ljava/lang/String;)V"⟩) U
theorem n_dRuntimeException_w {s U : State} (hW : s.WarmedH U.vm) (h : n_dRuntimeException s) : n_dRuntimeException U := va_Nw.warmD hW h
theorem n_dRuntimeException_s {s U : State} (hv : s.vm = U.vm) (h : n_dRuntimeException s) : n_dRuntimeException U := va_Nw.same rfl hv h
def n_dException (U : State) : Prop := va_Nw (.declares ⟨"java/lang/Exception", "<init>", "(Ljava/lang/String;)V"⟩) U
theorem n_dException_w {s U : State} (hW : s.WarmedH U.vm) (h : n_dException s) : n_dException U := va_Nw.warmD hW h
theorem n_dException_s {s U : State} (hv : s.vm = U.vm) (h : n_dException s) : n_dException U := va_Nw.same rfl hv h
def n_dThrowable (U : State) : Prop := va_Nw (.declares ⟨"java/lang/Throwable", "<init>", "(Ljava/lang/String;)V"⟩) U
theorem n_dThrowable_w {s U : State} (hW : s.WarmedH U.vm) (h : n_dThrowable s) : n_dThrowable U := va_Nw.warmD hW h
theorem n_dThrowable_s {s U : State} (hv : s.vm = U.vm) (h : n_dThrowable s) : n_dThrowable U := va_Nw.same rfl hv h
def n_oAlloy (U : State) : Prop := va_AO "AlloyPlans$Alloy" U
theorem n_oAlloy_w {s U : State} (hW : s.WarmedH U.vm) (h : n_oAlloy s) : n_oAlloy U := va_AO.moved hW.alike h
theorem n_oAlloy_s {s U : State} (hv : s.vm = U.vm) (h : n_oAlloy s) : n_oAlloy U := va_AO.moved (by rw [hv]; exact Vm.Alike.refl _) h
def n_oMix (U : State) : Prop := va_AO "AlloyPlans$Mix" U
theorem n_oMix_w {s U : State} (hW : s.WarmedH U.vm) (h : n_oMix s) : n_oMix U := va_AO.moved hW.alike h
theorem n_oMix_s {s U : State} (hv : s.vm = U.vm) (h : n_oMix s) : n_oMix U := va_AO.moved (by rw [hv]; exact Vm.Alike.refl _) h
def n_s46 (U : State) : Prop := (∃ a : Nat, vk_R "AlloyPlans" 46 "something was added" a U)
theorem n_s46_w {s U : State} (hW : s.WarmedH U.vm) (h : n_s46 s) : n_s46 U := h.elim fun a h => ⟨a, vk_R.warm hW h⟩
theorem n_s46_s {s U : State} (hv : s.vm = U.vm) (h : n_s46 s) : n_s46 U := h.elim fun a h => ⟨a, vk_R.same hv.symm h⟩
def n_s178 (U : State) : Prop := (∃ a : Nat, vk_R "AlloyPlans" 178 "out of range" a U)
theorem n_s178_w {s U : State} (hW : s.WarmedH U.vm) (h : n_s178 s) : n_s178 U := h.elim fun a h => ⟨a, vk_R.warm hW h⟩
theorem n_s178_s {s U : State} (hv : s.vm = U.vm) (h : n_s178 s) : n_s178 U := h.elim fun a h => ⟨a, vk_R.same hv.symm h⟩
def n_s173 (U : State) : Prop := (∃ a : Nat, vk_R "AlloyPlans" 173 "no such number" a U)
theorem n_s173_w {s U : State} (hW : s.WarmedH U.vm) (h : n_s173 s) : n_s173 U := h.elim fun a h => ⟨a, vk_R.warm hW h⟩
theorem n_s173_s {s U : State} (hv : s.vm = U.vm) (h : n_s173 s) : n_s173 U := h.elim fun a h => ⟨a, vk_R.same hv.symm h⟩
def n_s87 (U : State) : Prop := (∃ a : Nat, vk_R "AlloyPlans" 87 "there are 4 kinds" a U)
theorem n_s87_w {s U : State} (hW : s.WarmedH U.vm) (h : n_s87 s) : n_s87 U := h.elim fun a h => ⟨a, vk_R.warm hW h⟩
theorem n_s87_s {s U : State} (hv : s.vm = U.vm) (h : n_s87 s) : n_s87 U := h.elim fun a h => ⟨a, vk_R.same hv.symm h⟩
def n_s184 (U : State) : Prop := (∃ a : Nat, vk_R "AlloyPlans" 184 "there is no plan" a U)
theorem n_s184_w {s U : State} (hW : s.WarmedH U.vm) (h : n_s184 s) : n_s184 U := h.elim fun a h => ⟨a, vk_R.warm hW h⟩
theorem n_s184_s {s U : State} (hv : s.vm = U.vm) (h : n_s184 s) : n_s184 U := h.elim fun a h => ⟨a, vk_R.same hv.symm h⟩
def n_s163 (U : State) : Prop := (∃ a : Nat, vk_R "AlloyPlans" 163 "the heat would have more than 65,536 kilos" a U)
theorem n_s163_w {s U : State} (hW : s.WarmedH U.vm) (h : n_s163 s) : n_s163 U := h.elim fun a h => ⟨a, vk_R.warm hW h⟩
theorem n_s163_s {s U : State} (hv : s.vm = U.vm) (h : n_s163 s) : n_s163 U := h.elim fun a h => ⟨a, vk_R.same hv.symm h⟩
def n_xISEIAE (U : State) : Prop := va_Nc xISE xIAE U
theorem n_xISEIAE_w {s U : State} (hW : s.WarmedH U.vm) (h : n_xISEIAE s) : n_xISEIAE U := va_Nc.moved hW.alike h
theorem n_xISEIAE_s {s U : State} (hv : s.vm = U.vm) (h : n_xISEIAE s) : n_xISEIAE U := va_Nc.moved (by rw [hv]; exact Vm.Alike.refl _) h
def n_xISEIOB (U : State) : Prop := va_Nc xISE xIOB U
theorem n_xISEIOB_w {s U : State} (hW : s.WarmedH U.vm) (h : n_xISEIOB s) : n_xISEIOB U := va_Nc.moved hW.alike h
theorem n_xISEIOB_s {s U : State} (hv : s.vm = U.vm) (h : n_xISEIOB s) : n_xISEIOB U := va_Nc.moved (by rw [hv]; exact Vm.Alike.refl _) h
def n_xISEUOE (U : State) : Prop := va_Nc xISE xUOE U
theorem n_xISEUOE_w {s U : State} (hW : s.WarmedH U.vm) (h : n_xISEUOE s) : n_xISEUOE U := va_Nc.moved hW.alike h
theorem n_xISEUOE_s {s U : State} (hv : s.vm = U.vm) (h : n_xISEUOE s) : n_xISEUOE U := va_Nc.moved (by rw [hv]; exact Vm.Alike.refl _) h
def n_xIAEISE (U : State) : Prop := va_Nc xIAE xISE U
theorem n_xIAEISE_w {s U : State} (hW : s.WarmedH U.vm) (h : n_xIAEISE s) : n_xIAEISE U := va_Nc.moved hW.alike h
theorem n_xIAEISE_s {s U : State} (hv : s.vm = U.vm) (h : n_xIAEISE s) : n_xIAEISE U := va_Nc.moved (by rw [hv]; exact Vm.Alike.refl _) h
def n_xIAEIOB (U : State) : Prop := va_Nc xIAE xIOB U
theorem n_xIAEIOB_w {s U : State} (hW : s.WarmedH U.vm) (h : n_xIAEIOB s) : n_xIAEIOB U := va_Nc.moved hW.alike h
theorem n_xIAEIOB_s {s U : State} (hv : s.vm = U.vm) (h : n_xIAEIOB s) : n_xIAEIOB U := va_Nc.moved (by rw [hv]; exact Vm.Alike.refl _) h
def n_xIAEUOE (U : State) : Prop := va_Nc xIAE xUOE U
theorem n_xIAEUOE_w {s U : State} (hW : s.WarmedH U.vm) (h : n_xIAEUOE s) : n_xIAEUOE U := va_Nc.moved hW.alike h
theorem n_xIAEUOE_s {s U : State} (hv : s.vm = U.vm) (h : n_xIAEUOE s) : n_xIAEUOE U := va_Nc.moved (by rw [hv]; exact Vm.Alike.refl _) h
def n_xIOBISE (U : State) : Prop := va_Nc xIOB xISE U
theorem n_xIOBISE_w {s U : State} (hW : s.WarmedH U.vm) (h : n_xIOBISE s) : n_xIOBISE U := va_Nc.moved hW.alike h
theorem n_xIOBISE_s {s U : State} (hv : s.vm = U.vm) (h : n_xIOBISE s) : n_xIOBISE U := va_Nc.moved (by rw [hv]; exact Vm.Alike.refl _) h
def n_xIOBIAE (U : State) : Prop := va_Nc xIOB xIAE U
theorem n_xIOBIAE_w {s U : State} (hW : s.WarmedH U.vm) (h : n_xIOBIAE s) : n_xIOBIAE U := va_Nc.moved hW.alike h
theorem n_xIOBIAE_s {s U : State} (hv : s.vm = U.vm) (h : n_xIOBIAE s) : n_xIOBIAE U := va_Nc.moved (by rw [hv]; exact Vm.Alike.refl _) h
def n_xIOBUOE (U : State) : Prop := va_Nc xIOB xUOE U
theorem n_xIOBUOE_w {s U : State} (hW : s.WarmedH U.vm) (h : n_xIOBUOE s) : n_xIOBUOE U := va_Nc.moved hW.alike h
theorem n_xIOBUOE_s {s U : State} (hv : s.vm = U.vm) (h : n_xIOBUOE s) : n_xIOBUOE U := va_Nc.moved (by rw [hv]; exact Vm.Alike.refl _) h
def n_xUOEISE (U : State) : Prop := va_Nc xUOE xISE U
theorem n_xUOEISE_w {s U : State} (hW : s.WarmedH U.vm) (h : n_xUOEISE s) : n_xUOEISE U := va_Nc.moved hW.alike h
theorem n_xUOEISE_s {s U : State} (hv : s.vm = U.vm) (h : n_xUOEISE s) : n_xUOEISE U := va_Nc.moved (by rw [hv]; exact Vm.Alike.refl _) h
def n_xUOEIAE (U : State) : Prop := va_Nc xUOE xIAE U
theorem n_xUOEIAE_w {s U : State} (hW : s.WarmedH U.vm) (h : n_xUOEIAE s) : n_xUOEIAE U := va_Nc.moved hW.alike h
theorem n_xUOEIAE_s {s U : State} (hv : s.vm = U.vm) (h : n_xUOEIAE s) : n_xUOEIAE U := va_Nc.moved (by rw [hv]; exact Vm.Alike.refl _) h
def n_xUOEIOB (U : State) : Prop := va_Nc xUOE xIOB U
theorem n_xUOEIOB_w {s U : State} (hW : s.WarmedH U.vm) (h : n_xUOEIOB s) : n_xUOEIOB U := va_Nc.moved hW.alike h
theorem n_xUOEIOB_s {s U : State} (hv : s.vm = U.vm) (h : n_xUOEIOB s) : n_xUOEIOB U := va_Nc.moved (by rw [hv]; exact Vm.Alike.refl _) h
def gN (U : State) : Prop := n_E22 U ∧ n_A35 U ∧ n_E33 U ∧ n_cISE U ∧ n_cIAE U ∧ n_cIOB U ∧ n_cUOE U ∧ n_dRuntimeException U ∧ n_dException U ∧ n_dThrowable U ∧ n_oAlloy U ∧ n_oMix U ∧ n_s46 U ∧ n_s178 U ∧ n_s173 U ∧ n_s87 U ∧ n_s184 U ∧ n_s163 U ∧ n_xISEIAE U ∧ n_xISEIOB U ∧ n_xISEUOE U ∧ n_xIAEISE U ∧ n_xIAEIOB U ∧ n_xIAEUOE U ∧ n_xIOBISE U ∧ n_xIOBIAE U ∧ n_xIOBUOE U ∧ n_xUOEISE U ∧ n_xUOEIAE U ∧ n_xUOEIOB U
theorem gN_w {s U : State} (hW : s.WarmedH U.vm) (h : gN s) : gN U := by
  obtain ⟨h0, h1, h2, h3, h4, h5, h6, h7, h8, h9, h10, h11, h12, h13, h14, h15, h16, h17, h18, h19, h20, h21, h22, h23, h24, h25, h26, h27, h28, h29⟩ := h
  exact ⟨n_E22_w hW h0, n_A35_w hW h1, n_E33_w hW h2, n_cISE_w hW h3, n_cIAE_w hW h4, n_cIOB_w hW h5, n_cUOE_w hW h6, n_dRuntimeException_w hW h7, n_dException_w hW h8, n_dThrowable_w hW h9, n_oAlloy_w hW h10, n_oMix_w hW h11, n_s46_w hW h12, n_s178_w hW h13, n_s173_w hW h14, n_s87_w hW h15, n_s184_w hW h16, n_s163_w hW h17, n_xISEIAE_w hW h18, n_xISEIOB_w hW h19, n_xISEUOE_w hW h20, n_xIAEISE_w hW h21, n_xIAEIOB_w hW h22, n_xIAEUOE_w hW h23, n_xIOBISE_w hW h24, n_xIOBIAE_w hW h25, n_xIOBUOE_w hW h26, n_xUOEISE_w hW h27, n_xUOEIAE_w hW h28, n_xUOEIOB_w hW h29⟩
theorem gN_s {s U : State} (hv : s.vm = U.vm) (h : gN s) : gN U := by
  obtain ⟨h0, h1, h2, h3, h4, h5, h6, h7, h8, h9, h10, h11, h12, h13, h14, h15, h16, h17, h18, h19, h20, h21, h22, h23, h24, h25, h26, h27, h28, h29⟩ := h
  exact ⟨n_E22_s hv h0, n_A35_s hv h1, n_E33_s hv h2, n_cISE_s hv h3, n_cIAE_s hv h4, n_cIOB_s hv h5, n_cUOE_s hv h6, n_dRuntimeException_s hv h7, n_dException_s hv h8, n_dThrowable_s hv h9, n_oAlloy_s hv h10, n_oMix_s hv h11, n_s46_s hv h12, n_s178_s hv h13, n_s173_s hv h14, n_s87_s hv h15, n_s184_s hv h16, n_s163_s hv h17, n_xISEIAE_s hv h18, n_xISEIOB_s hv h19, n_xISEUOE_s hv h20, n_xIAEISE_s hv h21, n_xIAEIOB_s hv h22, n_xIAEUOE_s hv h23, n_xIOBISE_s hv h24, n_xIOBIAE_s hv h25, n_xIOBUOE_s hv h26, n_xUOEISE_s hv h27, n_xUOEIAE_s hv h28, n_xUOEIOB_s hv h29⟩
theorem gN_n_E22 {U : State} (h : gN U) : n_E22 U := h.1
theorem gN_n_A35 {U : State} (h : gN U) : n_A35 U := h.2.1
theorem gN_n_E33 {U : State} (h : gN U) : n_E33 U := h.2.2.1
theorem gN_n_cISE {U : State} (h : gN U) : n_cISE U := h.2.2.2.1
theorem gN_n_cIAE {U : State} (h : gN U) : n_cIAE U := h.2.2.2.2.1
theorem gN_n_cIOB {U : State} (h : gN U) : n_cIOB U := h.2.2.2.2.2.1
theorem gN_n_cUOE {U : State} (h : gN U) : n_cUOE U := h.2.2.2.2.2.2.1
theorem gN_n_dRuntimeException {U : State} (h : gN U) : n_dRuntimeException U := h.2.2.2.2.2.2.2.1
theorem gN_n_dException {U : State} (h : gN U) : n_dException U := h.2.2.2.2.2.2.2.2.1
theorem gN_n_dThrowable {U : State} (h : gN U) : n_dThrowable U := h.2.2.2.2.2.2.2.2.2.1
theorem gN_n_oAlloy {U : State} (h : gN U) : n_oAlloy U := h.2.2.2.2.2.2.2.2.2.2.1
theorem gN_n_oMix {U : State} (h : gN U) : n_oMix U := h.2.2.2.2.2.2.2.2.2.2.2.1
theorem gN_n_s46 {U : State} (h : gN U) : n_s46 U := h.2.2.2.2.2.2.2.2.2.2.2.2.1
theorem gN_n_s178 {U : State} (h : gN U) : n_s178 U := h.2.2.2.2.2.2.2.2.2.2.2.2.2.1
theorem gN_n_s173 {U : State} (h : gN U) : n_s173 U := h.2.2.2.2.2.2.2.2.2.2.2.2.2.2.1
theorem gN_n_s87 {U : State} (h : gN U) : n_s87 U := h.2.2.2.2.2.2.2.2.2.2.2.2.2.2.2.1
theorem gN_n_s184 {U : State} (h : gN U) : n_s184 U := h.2.2.2.2.2.2.2.2.2.2.2.2.2.2.2.2.1
theorem gN_n_s163 {U : State} (h : gN U) : n_s163 U := h.2.2.2.2.2.2.2.2.2.2.2.2.2.2.2.2.2.1
theorem gN_n_xISEIAE {U : State} (h : gN U) : n_xISEIAE U := h.2.2.2.2.2.2.2.2.2.2.2.2.2.2.2.2.2.2.1
theorem gN_n_xISEIOB {U : State} (h : gN U) : n_xISEIOB U := h.2.2.2.2.2.2.2.2.2.2.2.2.2.2.2.2.2.2.2.1
theorem gN_n_xISEUOE {U : State} (h : gN U) : n_xISEUOE U := h.2.2.2.2.2.2.2.2.2.2.2.2.2.2.2.2.2.2.2.2.1
theorem gN_n_xIAEISE {U : State} (h : gN U) : n_xIAEISE U := h.2.2.2.2.2.2.2.2.2.2.2.2.2.2.2.2.2.2.2.2.2.1
theorem gN_n_xIAEIOB {U : State} (h : gN U) : n_xIAEIOB U := h.2.2.2.2.2.2.2.2.2.2.2.2.2.2.2.2.2.2.2.2.2.2.1
theorem gN_n_xIAEUOE {U : State} (h : gN U) : n_xIAEUOE U := h.2.2.2.2.2.2.2.2.2.2.2.2.2.2.2.2.2.2.2.2.2.2.2.1
theorem gN_n_xIOBISE {U : State} (h : gN U) : n_xIOBISE U := h.2.2.2.2.2.2.2.2.2.2.2.2.2.2.2.2.2.2.2.2.2.2.2.2.1
theorem gN_n_xIOBIAE {U : State} (h : gN U) : n_xIOBIAE U := h.2.2.2.2.2.2.2.2.2.2.2.2.2.2.2.2.2.2.2.2.2.2.2.2.2.1
theorem gN_n_xIOBUOE {U : State} (h : gN U) : n_xIOBUOE U := h.2.2.2.2.2.2.2.2.2.2.2.2.2.2.2.2.2.2.2.2.2.2.2.2.2.2.1
theorem gN_n_xUOEISE {U : State} (h : gN U) : n_xUOEISE U := h.2.2.2.2.2.2.2.2.2.2.2.2.2.2.2.2.2.2.2.2.2.2.2.2.2.2.2.1
theorem gN_n_xUOEIAE {U : State} (h : gN U) : n_xUOEIAE U := h.2.2.2.2.2.2.2.2.2.2.2.2.2.2.2.2.2.2.2.2.2.2.2.2.2.2.2.2.1
theorem gN_n_xUOEIOB {U : State} (h : gN U) : n_xUOEIOB U := h.2.2.2.2.2.2.2.2.2.2.2.2.2.2.2.2.2.2.2.2.2.2.2.2.2.2.2.2.2
/-- the environment of a call: the classes' tables, the other words, the two statics that a throw reads -/
def gE (D : va_G) (cl : List vw_C) (tys : List (ClassId × FieldType)) (A : Nat → Prop) (U : State) : Prop :=
  va_K D cl tys U ∧ gN U ∧ vx_Zq Bundle.tN "UNASSIGNED_STACK" Bundle.steD A U U.heap ∧ vx_Zq Bundle.tN "SUPPRESSED_SENTINEL" Bundle.listD A U U.heap
theorem gE_same {D : va_G} {cl : List vw_C} {tys : List (ClassId × FieldType)} {A : Nat → Prop} {U V : State} (hv : U.vm = V.vm) (hh : U.heap = V.heap) (h : gE D cl tys A U) : gE D cl tys A V := by
  obtain ⟨h1, h2, h3, h4⟩ := h
  have ha : U.vm.Alike V.vm := by rw [hv]; exact Vm.Alike.refl _
  rw [hh] at h3 h4
  exact ⟨va_K.moved ha h1, gN_s hv h2, vx_Zq.moved ha h3, vx_Zq.moved ha h4⟩
theorem gE_call {D : va_G} {cl : List vw_C} {tys : List (ClassId × FieldType)} {A B : Nat → Prop} {s U : State} {H : Heap} {locs : List Loc} (h : gE D cl tys A s) (hS : va_S A s.heap H locs) (hB : ∀ q, B q → A q) (hU : U.heap = H) (hW : s.WarmedH U.vm) : gE D cl tys B U := by
  obtain ⟨h1, h2, h3, h4⟩ := h
  refine ⟨va_K.moved hW.alike h1, gN_w hW h2, ?_, ?_⟩
  · rw [hU]; exact ((vx_Zq.moved hW.alike (h3.kept hS.2.1))).narrow hB
  · rw [hU]; exact ((vx_Zq.moved hW.alike (h4.kept hS.2.1))).narrow hB
