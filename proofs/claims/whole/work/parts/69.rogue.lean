/-! What the machine does with a call on an object of a class that has no superclass, no methods and no superinterfaces (such a class of kind 'array of int' may hold the row FIRST_SETTINGS at an allowed start): selection finds nothing. -/
theorem rogue_super (vm : Vm) (mR : MethodId) (n d : String) (fuel : Nat) (c : ClassId) (k : Class) (hk : vm.classes[c]? = some k) (hs : k.super = none) (hm : k.findMethod n d = none) : selectInSuperclasses vm mR n d (fuel + 1) c = none := by
  simp [selectInSuperclasses, hk, hs, hm]
theorem rogue_ifaces (vm : Vm) (n d : String) (c : ClassId) (k : Class) (hk : vm.classes[c]? = some k) (hs : k.super = none) (hi : k.interfaces = #[]) : maximallySpecific vm c n d = [] := by
  have h : vm.superinterfaces c = [] := by
    simp [Vm.superinterfaces, Vm.superinterfacesAux, hk, hs, hi]
  simp [maximallySpecific, superinterfaceMethods, h]
theorem rogue_select (pl : Platform) (vm : Vm) (mR : MethodId) (r : Method) (c : ClassId) (k : Class) (hk : vm.classes[c]? = some k) (hs : k.super = none) (hi : k.interfaces = #[]) (hm : k.findMethod r.name r.desc = none) (hr : vm.method? mR = some r) (hp : r.isPrivate = false) (hov : refusedOverriding pl vm c r.name r.desc = false) : selectMethod pl vm c mR = .none := by
  simp [selectMethod, hr, hp, hov, rogue_super vm mR r.name r.desc _ c k hk hs hm, rogue_ifaces vm r.name r.desc c k hk hs hi]
