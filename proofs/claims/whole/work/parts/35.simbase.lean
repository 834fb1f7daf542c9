/-! reads of written states -/
def fd_xpF (σ : FDS) (f : Nat → Nat) : FDS := (σ.1, σ.2.1, σ.2.2.1, f, σ.2.2.2.2)
def fm_xs (μ : FMS) (g : Nat → Nat) : FMS := (μ.1, μ.2.1, μ.2.2.1, fun k j => if k = 15 ∨ k = 16 ∨ k = 17 ∨ k = 18 then fm_aI μ k (g j) else fm_aI μ k j, fun k j => if k = 12 then fm_aZ μ k (g j) else fm_aZ μ k j, fun k j => if k = 14 then fm_aD μ k (g j) else fm_aD μ k j)
theorem gs_fddI_dI (σ : FDS) (k : Nat) (v : Int32) (j : Nat) : fd_dI (fd_sdI σ k v) j = if j = k then v else fd_dI σ j := rfl
theorem gs_fddI_dT (σ : FDS) (v : UInt64) : fd_dI (fd_sdT σ v) = fd_dI σ := rfl
theorem gs_fddI_mS (σ : FDS) (v : Int32) : fd_dI (fd_smS σ v) = fd_dI σ := rfl
theorem gs_fddI_pF (σ : FDS) (k : Nat) (v : Nat) : fd_dI (fd_spF σ k v) = fd_dI σ := rfl
theorem gs_fddI_qI (σ : FDS) (k : Nat) (v : Int32) : fd_dI (fd_sqI σ k v) = fd_dI σ := rfl
theorem gs_fddI_qB (σ : FDS) (k : Nat) (v : Bool) : fd_dI (fd_sqB σ k v) = fd_dI σ := rfl
theorem gs_fddI_rI (σ : FDS) (u : Nat) (k : Nat) (v : Int32) : fd_dI (fd_srI σ u k v) = fd_dI σ := rfl
theorem gs_fddI_rB (σ : FDS) (u : Nat) (k : Nat) (v : Bool) : fd_dI (fd_srB σ u k v) = fd_dI σ := rfl
theorem gs_fddI_rD (σ : FDS) (k : Nat) (v : UInt64) : fd_dI (fd_srD σ k v) = fd_dI σ := rfl
theorem gs_fddI_pI (σ : FDS) (u : Nat) (k : Nat) (v : Int32) : fd_dI (fd_spI σ u k v) = fd_dI σ := rfl
theorem gs_fddI_pB (σ : FDS) (k : Nat) (v : Bool) : fd_dI (fd_spB σ k v) = fd_dI σ := rfl
theorem gs_fddI_pD (σ : FDS) (k : Nat) (v : UInt64) : fd_dI (fd_spD σ k v) = fd_dI σ := rfl
theorem gs_fddT_dI (σ : FDS) (k : Nat) (v : Int32) : fd_dT (fd_sdI σ k v) = fd_dT σ := rfl
theorem gs_fddT_dT (σ : FDS) (v : UInt64) : fd_dT (fd_sdT σ v) = v := rfl
theorem gs_fddT_mS (σ : FDS) (v : Int32) : fd_dT (fd_smS σ v) = fd_dT σ := rfl
theorem gs_fddT_pF (σ : FDS) (k : Nat) (v : Nat) : fd_dT (fd_spF σ k v) = fd_dT σ := rfl
theorem gs_fddT_qI (σ : FDS) (k : Nat) (v : Int32) : fd_dT (fd_sqI σ k v) = fd_dT σ := rfl
theorem gs_fddT_qB (σ : FDS) (k : Nat) (v : Bool) : fd_dT (fd_sqB σ k v) = fd_dT σ := rfl
theorem gs_fddT_rI (σ : FDS) (u : Nat) (k : Nat) (v : Int32) : fd_dT (fd_srI σ u k v) = fd_dT σ := rfl
theorem gs_fddT_rB (σ : FDS) (u : Nat) (k : Nat) (v : Bool) : fd_dT (fd_srB σ u k v) = fd_dT σ := rfl
theorem gs_fddT_rD (σ : FDS) (k : Nat) (v : UInt64) : fd_dT (fd_srD σ k v) = fd_dT σ := rfl
theorem gs_fddT_pI (σ : FDS) (u : Nat) (k : Nat) (v : Int32) : fd_dT (fd_spI σ u k v) = fd_dT σ := rfl
theorem gs_fddT_pB (σ : FDS) (k : Nat) (v : Bool) : fd_dT (fd_spB σ k v) = fd_dT σ := rfl
theorem gs_fddT_pD (σ : FDS) (k : Nat) (v : UInt64) : fd_dT (fd_spD σ k v) = fd_dT σ := rfl
theorem gs_fdmS_dI (σ : FDS) (k : Nat) (v : Int32) : fd_mS (fd_sdI σ k v) = fd_mS σ := rfl
theorem gs_fdmS_dT (σ : FDS) (v : UInt64) : fd_mS (fd_sdT σ v) = fd_mS σ := rfl
theorem gs_fdmS_mS (σ : FDS) (v : Int32) : fd_mS (fd_smS σ v) = v := rfl
theorem gs_fdmS_pF (σ : FDS) (k : Nat) (v : Nat) : fd_mS (fd_spF σ k v) = fd_mS σ := rfl
theorem gs_fdmS_qI (σ : FDS) (k : Nat) (v : Int32) : fd_mS (fd_sqI σ k v) = fd_mS σ := rfl
theorem gs_fdmS_qB (σ : FDS) (k : Nat) (v : Bool) : fd_mS (fd_sqB σ k v) = fd_mS σ := rfl
theorem gs_fdmS_rI (σ : FDS) (u : Nat) (k : Nat) (v : Int32) : fd_mS (fd_srI σ u k v) = fd_mS σ := rfl
theorem gs_fdmS_rB (σ : FDS) (u : Nat) (k : Nat) (v : Bool) : fd_mS (fd_srB σ u k v) = fd_mS σ := rfl
theorem gs_fdmS_rD (σ : FDS) (k : Nat) (v : UInt64) : fd_mS (fd_srD σ k v) = fd_mS σ := rfl
theorem gs_fdmS_pI (σ : FDS) (u : Nat) (k : Nat) (v : Int32) : fd_mS (fd_spI σ u k v) = fd_mS σ := rfl
theorem gs_fdmS_pB (σ : FDS) (k : Nat) (v : Bool) : fd_mS (fd_spB σ k v) = fd_mS σ := rfl
theorem gs_fdmS_pD (σ : FDS) (k : Nat) (v : UInt64) : fd_mS (fd_spD σ k v) = fd_mS σ := rfl
theorem gs_fdpF_dI (σ : FDS) (k : Nat) (v : Int32) : fd_pF (fd_sdI σ k v) = fd_pF σ := rfl
theorem gs_fdpF_dT (σ : FDS) (v : UInt64) : fd_pF (fd_sdT σ v) = fd_pF σ := rfl
theorem gs_fdpF_mS (σ : FDS) (v : Int32) : fd_pF (fd_smS σ v) = fd_pF σ := rfl
theorem gs_fdpF_pF (σ : FDS) (k : Nat) (v : Nat) (j : Nat) : fd_pF (fd_spF σ k v) j = if j = k then v else fd_pF σ j := rfl
theorem gs_fdpF_qI (σ : FDS) (k : Nat) (v : Int32) : fd_pF (fd_sqI σ k v) = fd_pF σ := rfl
theorem gs_fdpF_qB (σ : FDS) (k : Nat) (v : Bool) : fd_pF (fd_sqB σ k v) = fd_pF σ := rfl
theorem gs_fdpF_rI (σ : FDS) (u : Nat) (k : Nat) (v : Int32) : fd_pF (fd_srI σ u k v) = fd_pF σ := rfl
theorem gs_fdpF_rB (σ : FDS) (u : Nat) (k : Nat) (v : Bool) : fd_pF (fd_srB σ u k v) = fd_pF σ := rfl
theorem gs_fdpF_rD (σ : FDS) (k : Nat) (v : UInt64) : fd_pF (fd_srD σ k v) = fd_pF σ := rfl
theorem gs_fdpF_pI (σ : FDS) (u : Nat) (k : Nat) (v : Int32) : fd_pF (fd_spI σ u k v) = fd_pF σ := rfl
theorem gs_fdpF_pB (σ : FDS) (k : Nat) (v : Bool) : fd_pF (fd_spB σ k v) = fd_pF σ := rfl
theorem gs_fdpF_pD (σ : FDS) (k : Nat) (v : UInt64) : fd_pF (fd_spD σ k v) = fd_pF σ := rfl
theorem gs_fdqI_dI (σ : FDS) (k : Nat) (v : Int32) : fd_qI (fd_sdI σ k v) = fd_qI σ := rfl
theorem gs_fdqI_dT (σ : FDS) (v : UInt64) : fd_qI (fd_sdT σ v) = fd_qI σ := rfl
theorem gs_fdqI_mS (σ : FDS) (v : Int32) : fd_qI (fd_smS σ v) = fd_qI σ := rfl
theorem gs_fdqI_pF (σ : FDS) (k : Nat) (v : Nat) : fd_qI (fd_spF σ k v) = fd_qI σ := rfl
theorem gs_fdqI_qI (σ : FDS) (k : Nat) (v : Int32) (j : Nat) : fd_qI (fd_sqI σ k v) j = if j = k then v else fd_qI σ j := rfl
theorem gs_fdqI_qB (σ : FDS) (k : Nat) (v : Bool) : fd_qI (fd_sqB σ k v) = fd_qI σ := rfl
theorem gs_fdqI_rI (σ : FDS) (u : Nat) (k : Nat) (v : Int32) : fd_qI (fd_srI σ u k v) = fd_qI σ := rfl
theorem gs_fdqI_rB (σ : FDS) (u : Nat) (k : Nat) (v : Bool) : fd_qI (fd_srB σ u k v) = fd_qI σ := rfl
theorem gs_fdqI_rD (σ : FDS) (k : Nat) (v : UInt64) : fd_qI (fd_srD σ k v) = fd_qI σ := rfl
theorem gs_fdqI_pI (σ : FDS) (u : Nat) (k : Nat) (v : Int32) : fd_qI (fd_spI σ u k v) = fd_qI σ := rfl
theorem gs_fdqI_pB (σ : FDS) (k : Nat) (v : Bool) : fd_qI (fd_spB σ k v) = fd_qI σ := rfl
theorem gs_fdqI_pD (σ : FDS) (k : Nat) (v : UInt64) : fd_qI (fd_spD σ k v) = fd_qI σ := rfl
theorem gs_fdqB_dI (σ : FDS) (k : Nat) (v : Int32) : fd_qB (fd_sdI σ k v) = fd_qB σ := rfl
theorem gs_fdqB_dT (σ : FDS) (v : UInt64) : fd_qB (fd_sdT σ v) = fd_qB σ := rfl
theorem gs_fdqB_mS (σ : FDS) (v : Int32) : fd_qB (fd_smS σ v) = fd_qB σ := rfl
theorem gs_fdqB_pF (σ : FDS) (k : Nat) (v : Nat) : fd_qB (fd_spF σ k v) = fd_qB σ := rfl
theorem gs_fdqB_qI (σ : FDS) (k : Nat) (v : Int32) : fd_qB (fd_sqI σ k v) = fd_qB σ := rfl
theorem gs_fdqB_qB (σ : FDS) (k : Nat) (v : Bool) (j : Nat) : fd_qB (fd_sqB σ k v) j = if j = k then v else fd_qB σ j := rfl
theorem gs_fdqB_rI (σ : FDS) (u : Nat) (k : Nat) (v : Int32) : fd_qB (fd_srI σ u k v) = fd_qB σ := rfl
theorem gs_fdqB_rB (σ : FDS) (u : Nat) (k : Nat) (v : Bool) : fd_qB (fd_srB σ u k v) = fd_qB σ := rfl
theorem gs_fdqB_rD (σ : FDS) (k : Nat) (v : UInt64) : fd_qB (fd_srD σ k v) = fd_qB σ := rfl
theorem gs_fdqB_pI (σ : FDS) (u : Nat) (k : Nat) (v : Int32) : fd_qB (fd_spI σ u k v) = fd_qB σ := rfl
theorem gs_fdqB_pB (σ : FDS) (k : Nat) (v : Bool) : fd_qB (fd_spB σ k v) = fd_qB σ := rfl
theorem gs_fdqB_pD (σ : FDS) (k : Nat) (v : UInt64) : fd_qB (fd_spD σ k v) = fd_qB σ := rfl
theorem gs_fdrI_dI (σ : FDS) (k : Nat) (v : Int32) : fd_rI (fd_sdI σ k v) = fd_rI σ := rfl
theorem gs_fdrI_dT (σ : FDS) (v : UInt64) : fd_rI (fd_sdT σ v) = fd_rI σ := rfl
theorem gs_fdrI_mS (σ : FDS) (v : Int32) : fd_rI (fd_smS σ v) = fd_rI σ := rfl
theorem gs_fdrI_pF (σ : FDS) (k : Nat) (v : Nat) : fd_rI (fd_spF σ k v) = fd_rI σ := rfl
theorem gs_fdrI_qI (σ : FDS) (k : Nat) (v : Int32) : fd_rI (fd_sqI σ k v) = fd_rI σ := rfl
theorem gs_fdrI_qB (σ : FDS) (k : Nat) (v : Bool) : fd_rI (fd_sqB σ k v) = fd_rI σ := rfl
theorem gs_fdrI_rI (σ : FDS) (u k : Nat) (v : Int32) (a b : Nat) : fd_rI (fd_srI σ u k v) a b = if a = u then (if b = k then v else fd_rI σ u b) else fd_rI σ a b := by
  show (if a = u then _ else _ : Nat → Int32) b = _
  split <;> rfl
theorem gs_fdrI_rB (σ : FDS) (u : Nat) (k : Nat) (v : Bool) : fd_rI (fd_srB σ u k v) = fd_rI σ := rfl
theorem gs_fdrI_rD (σ : FDS) (k : Nat) (v : UInt64) : fd_rI (fd_srD σ k v) = fd_rI σ := rfl
theorem gs_fdrI_pI (σ : FDS) (u : Nat) (k : Nat) (v : Int32) : fd_rI (fd_spI σ u k v) = fd_rI σ := rfl
theorem gs_fdrI_pB (σ : FDS) (k : Nat) (v : Bool) : fd_rI (fd_spB σ k v) = fd_rI σ := rfl
theorem gs_fdrI_pD (σ : FDS) (k : Nat) (v : UInt64) : fd_rI (fd_spD σ k v) = fd_rI σ := rfl
theorem gs_fdrB_dI (σ : FDS) (k : Nat) (v : Int32) : fd_rB (fd_sdI σ k v) = fd_rB σ := rfl
theorem gs_fdrB_dT (σ : FDS) (v : UInt64) : fd_rB (fd_sdT σ v) = fd_rB σ := rfl
theorem gs_fdrB_mS (σ : FDS) (v : Int32) : fd_rB (fd_smS σ v) = fd_rB σ := rfl
theorem gs_fdrB_pF (σ : FDS) (k : Nat) (v : Nat) : fd_rB (fd_spF σ k v) = fd_rB σ := rfl
theorem gs_fdrB_qI (σ : FDS) (k : Nat) (v : Int32) : fd_rB (fd_sqI σ k v) = fd_rB σ := rfl
theorem gs_fdrB_qB (σ : FDS) (k : Nat) (v : Bool) : fd_rB (fd_sqB σ k v) = fd_rB σ := rfl
theorem gs_fdrB_rI (σ : FDS) (u : Nat) (k : Nat) (v : Int32) : fd_rB (fd_srI σ u k v) = fd_rB σ := rfl
theorem gs_fdrB_rB (σ : FDS) (u k : Nat) (v : Bool) (a b : Nat) : fd_rB (fd_srB σ u k v) a b = if a = u then (if b = k then v else fd_rB σ u b) else fd_rB σ a b := by
  show (if a = u then _ else _ : Nat → Bool) b = _
  split <;> rfl
theorem gs_fdrB_rD (σ : FDS) (k : Nat) (v : UInt64) : fd_rB (fd_srD σ k v) = fd_rB σ := rfl
theorem gs_fdrB_pI (σ : FDS) (u : Nat) (k : Nat) (v : Int32) : fd_rB (fd_spI σ u k v) = fd_rB σ := rfl
theorem gs_fdrB_pB (σ : FDS) (k : Nat) (v : Bool) : fd_rB (fd_spB σ k v) = fd_rB σ := rfl
theorem gs_fdrB_pD (σ : FDS) (k : Nat) (v : UInt64) : fd_rB (fd_spD σ k v) = fd_rB σ := rfl
theorem gs_fdrD_dI (σ : FDS) (k : Nat) (v : Int32) : fd_rD (fd_sdI σ k v) = fd_rD σ := rfl
theorem gs_fdrD_dT (σ : FDS) (v : UInt64) : fd_rD (fd_sdT σ v) = fd_rD σ := rfl
theorem gs_fdrD_mS (σ : FDS) (v : Int32) : fd_rD (fd_smS σ v) = fd_rD σ := rfl
theorem gs_fdrD_pF (σ : FDS) (k : Nat) (v : Nat) : fd_rD (fd_spF σ k v) = fd_rD σ := rfl
theorem gs_fdrD_qI (σ : FDS) (k : Nat) (v : Int32) : fd_rD (fd_sqI σ k v) = fd_rD σ := rfl
theorem gs_fdrD_qB (σ : FDS) (k : Nat) (v : Bool) : fd_rD (fd_sqB σ k v) = fd_rD σ := rfl
theorem gs_fdrD_rI (σ : FDS) (u : Nat) (k : Nat) (v : Int32) : fd_rD (fd_srI σ u k v) = fd_rD σ := rfl
theorem gs_fdrD_rB (σ : FDS) (u : Nat) (k : Nat) (v : Bool) : fd_rD (fd_srB σ u k v) = fd_rD σ := rfl
theorem gs_fdrD_rD (σ : FDS) (k : Nat) (v : UInt64) (j : Nat) : fd_rD (fd_srD σ k v) j = if j = k then v else fd_rD σ j := rfl
theorem gs_fdrD_pI (σ : FDS) (u : Nat) (k : Nat) (v : Int32) : fd_rD (fd_spI σ u k v) = fd_rD σ := rfl
theorem gs_fdrD_pB (σ : FDS) (k : Nat) (v : Bool) : fd_rD (fd_spB σ k v) = fd_rD σ := rfl
theorem gs_fdrD_pD (σ : FDS) (k : Nat) (v : UInt64) : fd_rD (fd_spD σ k v) = fd_rD σ := rfl
theorem gs_fdpI_dI (σ : FDS) (k : Nat) (v : Int32) : fd_pI (fd_sdI σ k v) = fd_pI σ := rfl
theorem gs_fdpI_dT (σ : FDS) (v : UInt64) : fd_pI (fd_sdT σ v) = fd_pI σ := rfl
theorem gs_fdpI_mS (σ : FDS) (v : Int32) : fd_pI (fd_smS σ v) = fd_pI σ := rfl
theorem gs_fdpI_pF (σ : FDS) (k : Nat) (v : Nat) : fd_pI (fd_spF σ k v) = fd_pI σ := rfl
theorem gs_fdpI_qI (σ : FDS) (k : Nat) (v : Int32) : fd_pI (fd_sqI σ k v) = fd_pI σ := rfl
theorem gs_fdpI_qB (σ : FDS) (k : Nat) (v : Bool) : fd_pI (fd_sqB σ k v) = fd_pI σ := rfl
theorem gs_fdpI_rI (σ : FDS) (u : Nat) (k : Nat) (v : Int32) : fd_pI (fd_srI σ u k v) = fd_pI σ := rfl
theorem gs_fdpI_rB (σ : FDS) (u : Nat) (k : Nat) (v : Bool) : fd_pI (fd_srB σ u k v) = fd_pI σ := rfl
theorem gs_fdpI_rD (σ : FDS) (k : Nat) (v : UInt64) : fd_pI (fd_srD σ k v) = fd_pI σ := rfl
theorem gs_fdpI_pI (σ : FDS) (u k : Nat) (v : Int32) (a b : Nat) : fd_pI (fd_spI σ u k v) a b = if a = u then (if b = k then v else fd_pI σ u b) else fd_pI σ a b := by
  show (if a = u then _ else _ : Nat → Int32) b = _
  split <;> rfl
theorem gs_fdpI_pB (σ : FDS) (k : Nat) (v : Bool) : fd_pI (fd_spB σ k v) = fd_pI σ := rfl
theorem gs_fdpI_pD (σ : FDS) (k : Nat) (v : UInt64) : fd_pI (fd_spD σ k v) = fd_pI σ := rfl
theorem gs_fdpB_dI (σ : FDS) (k : Nat) (v : Int32) : fd_pB (fd_sdI σ k v) = fd_pB σ := rfl
theorem gs_fdpB_dT (σ : FDS) (v : UInt64) : fd_pB (fd_sdT σ v) = fd_pB σ := rfl
theorem gs_fdpB_mS (σ : FDS) (v : Int32) : fd_pB (fd_smS σ v) = fd_pB σ := rfl
theorem gs_fdpB_pF (σ : FDS) (k : Nat) (v : Nat) : fd_pB (fd_spF σ k v) = fd_pB σ := rfl
theorem gs_fdpB_qI (σ : FDS) (k : Nat) (v : Int32) : fd_pB (fd_sqI σ k v) = fd_pB σ := rfl
theorem gs_fdpB_qB (σ : FDS) (k : Nat) (v : Bool) : fd_pB (fd_sqB σ k v) = fd_pB σ := rfl
theorem gs_fdpB_rI (σ : FDS) (u : Nat) (k : Nat) (v : Int32) : fd_pB (fd_srI σ u k v) = fd_pB σ := rfl
theorem gs_fdpB_rB (σ : FDS) (u : Nat) (k : Nat) (v : Bool) : fd_pB (fd_srB σ u k v) = fd_pB σ := rfl
theorem gs_fdpB_rD (σ : FDS) (k : Nat) (v : UInt64) : fd_pB (fd_srD σ k v) = fd_pB σ := rfl
theorem gs_fdpB_pI (σ : FDS) (u : Nat) (k : Nat) (v : Int32) : fd_pB (fd_spI σ u k v) = fd_pB σ := rfl
theorem gs_fdpB_pB (σ : FDS) (k : Nat) (v : Bool) (j : Nat) : fd_pB (fd_spB σ k v) j = if j = k then v else fd_pB σ j := rfl
theorem gs_fdpB_pD (σ : FDS) (k : Nat) (v : UInt64) : fd_pB (fd_spD σ k v) = fd_pB σ := rfl
theorem gs_fdpD_dI (σ : FDS) (k : Nat) (v : Int32) : fd_pD (fd_sdI σ k v) = fd_pD σ := rfl
theorem gs_fdpD_dT (σ : FDS) (v : UInt64) : fd_pD (fd_sdT σ v) = fd_pD σ := rfl
theorem gs_fdpD_mS (σ : FDS) (v : Int32) : fd_pD (fd_smS σ v) = fd_pD σ := rfl
theorem gs_fdpD_pF (σ : FDS) (k : Nat) (v : Nat) : fd_pD (fd_spF σ k v) = fd_pD σ := rfl
theorem gs_fdpD_qI (σ : FDS) (k : Nat) (v : Int32) : fd_pD (fd_sqI σ k v) = fd_pD σ := rfl
theorem gs_fdpD_qB (σ : FDS) (k : Nat) (v : Bool) : fd_pD (fd_sqB σ k v) = fd_pD σ := rfl
theorem gs_fdpD_rI (σ : FDS) (u : Nat) (k : Nat) (v : Int32) : fd_pD (fd_srI σ u k v) = fd_pD σ := rfl
theorem gs_fdpD_rB (σ : FDS) (u : Nat) (k : Nat) (v : Bool) : fd_pD (fd_srB σ u k v) = fd_pD σ := rfl
theorem gs_fdpD_rD (σ : FDS) (k : Nat) (v : UInt64) : fd_pD (fd_srD σ k v) = fd_pD σ := rfl
theorem gs_fdpD_pI (σ : FDS) (u : Nat) (k : Nat) (v : Int32) : fd_pD (fd_spI σ u k v) = fd_pD σ := rfl
theorem gs_fdpD_pB (σ : FDS) (k : Nat) (v : Bool) : fd_pD (fd_spB σ k v) = fd_pD σ := rfl
theorem gs_fdpD_pD (σ : FDS) (k : Nat) (v : UInt64) (j : Nat) : fd_pD (fd_spD σ k v) j = if j = k then v else fd_pD σ j := rfl
theorem gs_fmmI_mI (σ : FMS) (k : Nat) (v : Int32) (j : Nat) : fm_mI (fm_smI σ k v) j = if j = k then v else fm_mI σ j := rfl
theorem gs_fmmI_mT (σ : FMS) (v : UInt64) : fm_mI (fm_smT σ v) = fm_mI σ := rfl
theorem gs_fmmI_mZ (σ : FMS) (v : Bool) : fm_mI (fm_smZ σ v) = fm_mI σ := rfl
theorem gs_fmmI_aI (σ : FMS) (u : Nat) (k : Nat) (v : Int32) : fm_mI (fm_saI σ u k v) = fm_mI σ := rfl
theorem gs_fmmI_aZ (σ : FMS) (u : Nat) (k : Nat) (v : Bool) : fm_mI (fm_saZ σ u k v) = fm_mI σ := rfl
theorem gs_fmmI_aD (σ : FMS) (u : Nat) (k : Nat) (v : UInt64) : fm_mI (fm_saD σ u k v) = fm_mI σ := rfl
theorem gs_fmmT_mI (σ : FMS) (k : Nat) (v : Int32) : fm_mT (fm_smI σ k v) = fm_mT σ := rfl
theorem gs_fmmT_mT (σ : FMS) (v : UInt64) : fm_mT (fm_smT σ v) = v := rfl
theorem gs_fmmT_mZ (σ : FMS) (v : Bool) : fm_mT (fm_smZ σ v) = fm_mT σ := rfl
theorem gs_fmmT_aI (σ : FMS) (u : Nat) (k : Nat) (v : Int32) : fm_mT (fm_saI σ u k v) = fm_mT σ := rfl
theorem gs_fmmT_aZ (σ : FMS) (u : Nat) (k : Nat) (v : Bool) : fm_mT (fm_saZ σ u k v) = fm_mT σ := rfl
theorem gs_fmmT_aD (σ : FMS) (u : Nat) (k : Nat) (v : UInt64) : fm_mT (fm_saD σ u k v) = fm_mT σ := rfl
theorem gs_fmmZ_mI (σ : FMS) (k : Nat) (v : Int32) : fm_mZ (fm_smI σ k v) = fm_mZ σ := rfl
theorem gs_fmmZ_mT (σ : FMS) (v : UInt64) : fm_mZ (fm_smT σ v) = fm_mZ σ := rfl
theorem gs_fmmZ_mZ (σ : FMS) (v : Bool) : fm_mZ (fm_smZ σ v) = v := rfl
theorem gs_fmmZ_aI (σ : FMS) (u : Nat) (k : Nat) (v : Int32) : fm_mZ (fm_saI σ u k v) = fm_mZ σ := rfl
theorem gs_fmmZ_aZ (σ : FMS) (u : Nat) (k : Nat) (v : Bool) : fm_mZ (fm_saZ σ u k v) = fm_mZ σ := rfl
theorem gs_fmmZ_aD (σ : FMS) (u : Nat) (k : Nat) (v : UInt64) : fm_mZ (fm_saD σ u k v) = fm_mZ σ := rfl
theorem gs_fmaI_mI (σ : FMS) (k : Nat) (v : Int32) : fm_aI (fm_smI σ k v) = fm_aI σ := rfl
theorem gs_fmaI_mT (σ : FMS) (v : UInt64) : fm_aI (fm_smT σ v) = fm_aI σ := rfl
theorem gs_fmaI_mZ (σ : FMS) (v : Bool) : fm_aI (fm_smZ σ v) = fm_aI σ := rfl
theorem gs_fmaI_aI (σ : FMS) (u k : Nat) (v : Int32) (a b : Nat) : fm_aI (fm_saI σ u k v) a b = if a = u then (if b = k then v else fm_aI σ u b) else fm_aI σ a b := by
  show (if a = u then _ else _ : Nat → Int32) b = _
  split <;> rfl
theorem gs_fmaI_aZ (σ : FMS) (u : Nat) (k : Nat) (v : Bool) : fm_aI (fm_saZ σ u k v) = fm_aI σ := rfl
theorem gs_fmaI_aD (σ : FMS) (u : Nat) (k : Nat) (v : UInt64) : fm_aI (fm_saD σ u k v) = fm_aI σ := rfl
theorem gs_fmaZ_mI (σ : FMS) (k : Nat) (v : Int32) : fm_aZ (fm_smI σ k v) = fm_aZ σ := rfl
theorem gs_fmaZ_mT (σ : FMS) (v : UInt64) : fm_aZ (fm_smT σ v) = fm_aZ σ := rfl
theorem gs_fmaZ_mZ (σ : FMS) (v : Bool) : fm_aZ (fm_smZ σ v) = fm_aZ σ := rfl
theorem gs_fmaZ_aI (σ : FMS) (u : Nat) (k : Nat) (v : Int32) : fm_aZ (fm_saI σ u k v) = fm_aZ σ := rfl
theorem gs_fmaZ_aZ (σ : FMS) (u k : Nat) (v : Bool) (a b : Nat) : fm_aZ (fm_saZ σ u k v) a b = if a = u then (if b = k then v else fm_aZ σ u b) else fm_aZ σ a b := by
  show (if a = u then _ else _ : Nat → Bool) b = _
  split <;> rfl
theorem gs_fmaZ_aD (σ : FMS) (u : Nat) (k : Nat) (v : UInt64) : fm_aZ (fm_saD σ u k v) = fm_aZ σ := rfl
theorem gs_fmaD_mI (σ : FMS) (k : Nat) (v : Int32) : fm_aD (fm_smI σ k v) = fm_aD σ := rfl
theorem gs_fmaD_mT (σ : FMS) (v : UInt64) : fm_aD (fm_smT σ v) = fm_aD σ := rfl
theorem gs_fmaD_mZ (σ : FMS) (v : Bool) : fm_aD (fm_smZ σ v) = fm_aD σ := rfl
theorem gs_fmaD_aI (σ : FMS) (u : Nat) (k : Nat) (v : Int32) : fm_aD (fm_saI σ u k v) = fm_aD σ := rfl
theorem gs_fmaD_aZ (σ : FMS) (u : Nat) (k : Nat) (v : Bool) : fm_aD (fm_saZ σ u k v) = fm_aD σ := rfl
theorem gs_fmaD_aD (σ : FMS) (u k : Nat) (v : UInt64) (a b : Nat) : fm_aD (fm_saD σ u k v) a b = if a = u then (if b = k then v else fm_aD σ u b) else fm_aD σ a b := by
  show (if a = u then _ else _ : Nat → UInt64) b = _
  split <;> rfl
theorem gx_dI (σ : FDS) (f : Nat → Nat) : fd_dI (fd_xpF σ f) = fd_dI σ := rfl
theorem gx_dT (σ : FDS) (f : Nat → Nat) : fd_dT (fd_xpF σ f) = fd_dT σ := rfl
theorem gx_mS (σ : FDS) (f : Nat → Nat) : fd_mS (fd_xpF σ f) = fd_mS σ := rfl
theorem gx_pF (σ : FDS) (f : Nat → Nat) : fd_pF (fd_xpF σ f) = f := rfl
theorem gx_qI (σ : FDS) (f : Nat → Nat) : fd_qI (fd_xpF σ f) = fd_qI σ := rfl
theorem gx_qB (σ : FDS) (f : Nat → Nat) : fd_qB (fd_xpF σ f) = fd_qB σ := rfl
theorem gx_rI (σ : FDS) (f : Nat → Nat) : fd_rI (fd_xpF σ f) = fd_rI σ := rfl
theorem gx_rB (σ : FDS) (f : Nat → Nat) : fd_rB (fd_xpF σ f) = fd_rB σ := rfl
theorem gx_rD (σ : FDS) (f : Nat → Nat) : fd_rD (fd_xpF σ f) = fd_rD σ := rfl
theorem gx_pI (σ : FDS) (f : Nat → Nat) : fd_pI (fd_xpF σ f) = fd_pI σ := rfl
theorem gx_pB (σ : FDS) (f : Nat → Nat) : fd_pB (fd_xpF σ f) = fd_pB σ := rfl
theorem gx_pD (σ : FDS) (f : Nat → Nat) : fd_pD (fd_xpF σ f) = fd_pD σ := rfl
theorem gx_mI (μ : FMS) (g : Nat → Nat) : fm_mI (fm_xs μ g) = fm_mI μ := rfl
theorem gx_mT (μ : FMS) (g : Nat → Nat) : fm_mT (fm_xs μ g) = fm_mT μ := rfl
theorem gx_mZ (μ : FMS) (g : Nat → Nat) : fm_mZ (fm_xs μ g) = fm_mZ μ := rfl
theorem gx_aI (μ : FMS) (g : Nat → Nat) (k j : Nat) : fm_aI (fm_xs μ g) k j = if k = 15 ∨ k = 16 ∨ k = 17 ∨ k = 18 then fm_aI μ k (g j) else fm_aI μ k j := rfl
theorem gx_aZ (μ : FMS) (g : Nat → Nat) (k j : Nat) : fm_aZ (fm_xs μ g) k j = if k = 12 then fm_aZ μ k (g j) else fm_aZ μ k j := rfl
theorem gx_aD (μ : FMS) (g : Nat → Nat) (k j : Nat) : fm_aD (fm_xs μ g) k j = if k = 14 then fm_aD μ k (g j) else fm_aD μ k j := rfl
def bt (x : Int32) (i : Nat) : Bool := x.toBitVec.getLsbD i
theorem b_ext {x y : Int32} (h : ∀ i, i < 32 → bt x i = bt y i) : x = y := Int32.toBitVec_inj.mp (BitVec.eq_of_getLsbD_eq (fun i hi => h i hi))
theorem b_or (x y : Int32) (i : Nat) : bt (x ||| y) i = (bt x i || bt y i) := by unfold bt; rw [Int32.toBitVec_or, BitVec.getLsbD_or]
theorem b_and (x y : Int32) (i : Nat) : bt (x &&& y) i = (bt x i && bt y i) := by unfold bt; rw [Int32.toBitVec_and, BitVec.getLsbD_and]
theorem b_xor (x y : Int32) (i : Nat) : bt (x ^^^ y) i = (bt x i ^^ bt y i) := by unfold bt; rw [Int32.toBitVec_xor, BitVec.getLsbD_xor]
theorem b_big {x : Int32} {i : Nat} (h : 32 ≤ i) : bt x i = false := BitVec.getLsbD_of_ge _ _ h
theorem b_255 (i : Nat) : bt 255 i = decide (i < 8) := by
  rcases Nat.lt_or_ge i 32 with h | h
  · exact (by decide +kernel : ∀ i, i < 32 → bt 255 i = decide (i < 8)) i h
  · rw [b_big h, decide_eq_false (by omega)]
theorem b_65535 (i : Nat) : bt 65535 i = decide (i < 16) := by
  rcases Nat.lt_or_ge i 32 with h | h
  · exact (by decide +kernel : ∀ i, i < 32 → bt 65535 i = decide (i < 16)) i h
  · rw [b_big h, decide_eq_false (by omega)]
theorem b_m1 : ∀ i, i < 32 → bt (-1) i = true := by decide +kernel
theorem b_0 (i : Nat) : bt 0 i = false := BitVec.getLsbD_zero
theorem s_l : ∀ n, n < 32 → ((nI n &&& 31).toBitVec.smod 32).toNat = n := by decide +kernel
theorem s_u : ∀ n, n < 32 → (((nI n).toUInt32 &&& Int32.toUInt32 31).toBitVec % 32).toNat = n := by decide +kernel
theorem b_shl (n : Nat) (hn : n < 32) (x : Int32) {i : Nat} (hi : i < 32) : bt (x <<< (nI n &&& 31)) i = (decide (n ≤ i) && bt x (i - n)) := by
  unfold bt
  rw [Int32.toBitVec_shiftLeft]
  show (x.toBitVec <<< ((nI n &&& 31).toBitVec.smod 32).toNat).getLsbD i = _
  rw [s_l n hn, BitVec.getLsbD_shiftLeft]
  rcases Nat.lt_or_ge i n with h | h
  · simp [h, Nat.not_le.mpr h]
  · simp [hi, h, Nat.not_lt.mpr h]
theorem b_ushr (n : Nat) (hn : n < 32) (x : Int32) (i : Nat) : bt ((x.toUInt32 >>> ((nI n).toUInt32 &&& Int32.toUInt32 31)).toInt32) i = bt x (n + i) := by
  show (x.toUInt32 >>> ((nI n).toUInt32 &&& Int32.toUInt32 31)).toBitVec.getLsbD i = x.toUInt32.toBitVec.getLsbD (n + i)
  rw [UInt32.toBitVec_shiftRight]
  show (x.toUInt32.toBitVec >>> (((nI n).toUInt32 &&& Int32.toUInt32 31).toBitVec % 32).toNat).getLsbD i = _
  rw [s_u n hn, BitVec.getLsbD_ushiftRight]
theorem b_sshr (n : Nat) (hn : n < 32) (x : Int32) {i : Nat} (hi : i < 32) : bt (x >>> (nI n &&& 31)) i = if n + i < 32 then bt x (n + i) else bt x 31 := by
  unfold bt
  rw [Int32.toBitVec_shiftRight]
  show (x.toBitVec.sshiftRight ((nI n &&& 31).toBitVec.smod 32).toNat).getLsbD i = _
  rw [s_l n hn, BitVec.getLsbD_sshiftRight, BitVec.msb_eq_getLsbD_last]
  simp [hi]
theorem fs_bitL (a : Int32) (n : Nat) (hn : n < 32) : (a &&& ((1 : Int32) <<< (nI n &&& 31))) = 0 ↔ bt a n = false := by
  have h1 : ∀ i, i < 32 → bt (a &&& ((1 : Int32) <<< (nI n &&& 31))) i = (bt a i && decide (i = n)) := fun i hi => by
    rw [b_and, b_shl n hn 1 hi]
    congr 1
    rcases Nat.lt_trichotomy i n with h | h | h
    · simp [Nat.not_le.mpr h, Nat.ne_of_lt h]
    · subst h
      simp
      decide
    · have h9 : ∀ j, j < 32 → 0 < j → bt 1 j = false := by decide +kernel
      rw [h9 (i - n) (by omega) (by omega)]
      simp [Nat.ne_of_gt h]
  constructor
  · intro h
    have := h1 n hn
    rw [h, b_0] at this
    simpa using this.symm
  · intro h
    refine b_ext (fun i hi => ?_)
    rw [h1 i hi, b_0]
    by_cases c : i = n
    · subst c
      simp [h]
    · simp [c]
theorem fs_bitR (a : Int32) (n : Nat) (hn : n < 32) : ((a >>> (nI n &&& 31)) &&& 1) = 1 ↔ bt a n = true := by
  have h9 : ∀ j, j < 32 → bt 1 j = decide (j = 0) := by decide +kernel
  have h1 : ∀ i, i < 32 → bt ((a >>> (nI n &&& 31)) &&& 1) i = (decide (i = 0) && bt a n) := fun i hi => by
    rw [b_and, b_sshr n hn a hi, h9 i hi]
    by_cases c : i = 0
    · subst c
      simp [hn]
    · simp [c]
  constructor
  · intro h
    have := h1 0 (by decide)
    rw [h, h9 0 (by decide)] at this
    simpa using this.symm
  · intro h
    refine b_ext (fun i hi => ?_)
    rw [h1 i hi, h9 i hi, h]
    simp
theorem fs_bit (a : Int32) {x : Int32} (h : vp_in x 32) : ((a >>> (x &&& 31)) &&& 1) = 1 ↔ ¬ (a &&& ((1 : Int32) <<< (x &&& 31))) = 0 := by
  obtain ⟨n, hn, rfl⟩ := vp_in_of h (by decide)
  rw [fs_bitL a n hn, fs_bitR a n hn]
  simp
theorem fs_bit7 (a : Int32) : ((a >>> (7 &&& 31)) &&& 1) = 1 ↔ ¬ (a &&& 128) = 0 := fs_bit a (x := 7) (vp_in_nI (n := 7) (N := 32) (by decide) (by decide))
-- doubles
theorem fs_nn {v : UInt64} (h : FP.dIsNaN v = false) : FP.Core.val64 v ≠ .nan := fun q => by
  have h1 : FP.Core.dIsNaN v = false := h
  rw [(FP.Core.dIsNaN_iff v).mpr q] at h1
  cases h1
theorem fs_cmp {a b : UInt64} (ha : FP.dIsNaN a = false) (hb : FP.dIsNaN b = false) : FP.dcmp a b = some (compare (FP.Core.dkey a) (FP.Core.dkey b)) := FP.Core.dcmp_key (fs_nn ha) (fs_nn hb)
theorem fs_gl {o : Ordering} : 0 ≤ Op.cmpValue (some o) .g ↔ ¬ Op.cmpValue (some o) .l < 0 := by cases o <;> decide
theorem fs_lt {a b : UInt64} (ha : FP.dIsNaN a = false) (hb : FP.dIsNaN b = false) : 0 ≤ Op.cmpValue (FP.dcmp a b) .g ↔ ¬ Op.cmpValue (FP.dcmp a b) .l < 0 := by
  rw [fs_cmp ha hb]
  exact fs_gl
theorem fs_10 {a : UInt64} (ha : FP.dIsNaN a = false) : (if 0 ≤ (Op.cmpValue (FP.dcmp a 4621819117588971520) .g) then 4621819117588971520 else a) = (if (Op.cmpValue (FP.dcmp a 4621819117588971520) .l) ≤ 0 then a else 4621819117588971520) := by
  rw [fs_cmp ha (by decide)]
  cases h : compare (FP.Core.dkey a) (FP.Core.dkey 4621819117588971520) with
  | lt => rfl
  | gt => rfl
  | eq =>
    rw [FP.Core.compare_eq_iff] at h
    have e : a = 4621819117588971520 := by
      have hk : FP.Core.dkey 4621819117588971520 = 4621819117588971520 := by decide
      rw [hk] at h
      unfold FP.Core.dkey at h
      apply UInt64.toNat_inj.mp
      have h3 : (4621819117588971520 : UInt64).toNat = 4621819117588971520 := by decide
      rw [h3]
      have := a.toNat_lt
      split at h <;> omega
    rw [e]
    rfl
-- numbers
theorem fs_le {p a b : Int32} (h : a.toInt = b.toInt + 1) : a ≤ p ↔ b < p := by
  rw [Int32.le_iff_toInt_le, Int32.lt_iff_toInt_lt]
  omega
theorem fs_url (σ : FDS) (μ : FMS) (p : Int32) : fv_Md_isUrl μ p = fv_Dk_isUrl σ p := by
  show (if p < 0 then false else if 47 < p then false else true) = (if p < 0 then false else if 48 ≤ p then false else true)
  simp only [fs_le (p := p) (a := 48) (b := 47) (by decide)]
theorem fs_in {p a b b1 : Int32} (μ : FMS) (h : b1.toInt = b.toInt + 1) : fv_Md_in μ p a b = (if p < a then false else if b1 ≤ p then false else true) := by
  show (if p < a then false else if b < p then false else true) = _
  simp only [fs_le (p := p) (a := b1) (b := b) h]
theorem fs_bool {P : Prop} [Decidable P] {b : Bool} : (if P then b else !b) = true ↔ (if P then b = true else b = false) := by
  by_cases h : P <;> simp [h]
theorem fs_btf {b : Bool} : (if b = true then true else false) = b := by cases b <;> rfl
theorem fs_bi {a b : Bool} : fd_bi a = fd_bi b ↔ a = b := by cases a <;> cases b <;> decide
-- the relation
def fs_R (σ : FDS) (μ : FMS) : Prop := ∀ u, u < 48 → fd_rI σ u 0 = fm_aI μ 0 u ∧ fd_rI σ u 1 = fm_aI μ 1 u ∧ fd_rI σ u 2 = fm_aI μ 2 u ∧ fd_rI σ u 3 = fm_aI μ 3 u ∧ fd_rI σ u 4 = fm_aI μ 4 u ∧ fd_rI σ u 5 = fm_aI μ 5 u ∧ fd_rB σ u 6 = fm_aZ μ 10 u ∧ fd_rB σ u 7 = fm_aZ μ 11 u ∧ fd_rI σ u 8 = fm_aI μ 6 u ∧ fd_rI σ u 9 = fm_aI μ 7 u ∧ fd_rD σ u = fm_aD μ 13 u ∧ fd_rI σ u 11 = fm_aI μ 8 u ∧ fd_rI σ u 12 = fm_aI μ 9 u
def fs_N (σ : FDS) (μ : FMS) : Prop := fd_dT σ = fm_mT μ ∧ fd_dI σ 4 = fm_mI μ 22 ∧ fd_dI σ 5 = fm_mI μ 23 ∧ fd_dI σ 6 = fm_mI μ 24 ∧ fd_dI σ 7 = fm_mI μ 25 ∧ fd_dI σ 8 = fm_mI μ 26
def fs_E (σ : FDS) (μ : FMS) (i : Nat) : Prop := fd_pI σ (fd_pF σ i) 0 = fm_aI μ 15 i ∧ fd_pI σ (fd_pF σ i) 1 = fm_aI μ 16 i ∧ fd_pB σ (fd_pF σ i) = fm_aZ μ 12 i ∧ fd_pI σ (fd_pF σ i) 3 = fm_aI μ 17 i ∧ fd_pI σ (fd_pF σ i) 4 = fm_aI μ 18 i ∧ fd_pD σ (fd_pF σ i) = fm_aD μ 14 i ∧ FP.dIsNaN (fm_aD μ 14 i) = false
def fs_K (μ : FMS) (i j : Nat) : Prop := fm_aI μ 15 i = fm_aI μ 15 j ∧ fm_aI μ 16 i = fm_aI μ 16 j ∧ fm_aZ μ 12 i = fm_aZ μ 12 j
def fs_M (σ : FDS) (μ : FMS) (m : Nat) : Prop := m ≤ 6 ∧ fd_mS σ = nI m ∧ fm_mI μ 21 = nI m ∧ (∀ i, i < m → fs_E σ μ i) ∧ (∀ i j, i < 6 → j < 6 → fd_pF σ i = fd_pF σ j → i = j) ∧ (∀ i j, i < j → j < m → ¬ fs_K μ i j)
def fs_T (σ : FDS) (μ : FMS) : Prop := fd_qI σ 10 = fm_aI μ 19 0 ∧ fd_qI σ 7 = fm_aI μ 19 1 ∧ fd_qI σ 1 = fm_aI μ 19 2 ∧ fd_qI σ 0 = fm_aI μ 19 3 ∧ fd_qI σ 2 = fm_aI μ 19 4 ∧ fd_bi (fd_qB σ 9) = fm_aI μ 19 5 ∧ fd_qI σ 11 = fm_aI μ 19 6 ∧ fd_qI σ 12 = fm_aI μ 19 7 ∧ fd_qI σ 13 = fm_aI μ 19 8 ∧ fd_qI σ 14 = fm_aI μ 19 9
/-- the desk's state and the model's say the same -/
def fs_Rel (σ : FDS) (μ : FMS) : Prop := fs_R σ μ ∧ fs_N σ μ ∧ (∃ m, fs_M σ μ m) ∧ fs_T σ μ
