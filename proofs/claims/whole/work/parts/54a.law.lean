def sm_bits (l : Launch) (sK sV tS : Nat → Nat) (dC : Nat → ClassId) (dI : Nat → Nat → Nat) (cyI cyZ cyJ cyB cyO : ClassId) (I : Nat → Nat → va_W → va_W → Prop) : Prop := ∀ (zx zm : Nat) (WX WM : va_W) (a0 : Int32), I zx zm WX WM → ∃ (r : Int32) (WX2 WM2 : va_W), px_St l (dC, dI) (px_TY cyI cyZ cyJ cyB cyO) yX10_bits wsX10_bits ({ frames := 1, cells := 0, slots := 0, locals := 22 } : Room) [.ref zx, .int a0] (.int r) WX WX2 ∧ px_St l (dC, dI) (px_TY cyI cyZ cyJ cyB cyO) yX11_bits wsX11_bits ({ frames := 1, cells := 0, slots := 0, locals := 25 } : Room) [.ref zm, .int a0] (.int r) WM WM2 ∧ I zx zm WX2 WM2
def sm_tag (l : Launch) (sK sV tS : Nat → Nat) (dC : Nat → ClassId) (dI : Nat → Nat → Nat) (cyI cyZ cyJ cyB cyO : ClassId) (I : Nat → Nat → va_W → va_W → Prop) : Prop := ∀ (zx zm : Nat) (WX WM : va_W) (a0 : Int32) (a1 : Int32), I zx zm WX WM → ∃ (r : Int32) (WX2 WM2 : va_W), px_St l (dC, dI) (px_TY cyI cyZ cyJ cyB cyO) yX10_tag wsX10_tag ({ frames := 3, cells := 0, slots := 0, locals := 65 } : Room) [.ref zx, .int a0, .int a1] (.int r) WX WX2 ∧ px_St l (dC, dI) (px_TY cyI cyZ cyJ cyB cyO) yX11_tag wsX11_tag ({ frames := 2, cells := 0, slots := 0, locals := 46 } : Room) [.ref zm, .int a0, .int a1] (.int r) WM WM2 ∧ I zx zm WX2 WM2
def sm_of (l : Launch) (sK sV tS : Nat → Nat) (dC : Nat → ClassId) (dI : Nat → Nat → Nat) (cyI cyZ cyJ cyB cyO : ClassId) (I : Nat → Nat → va_W → va_W → Prop) : Prop := ∀ (zx zm : Nat) (WX WM : va_W) (a0 : Int32) (a1 : Int32), I zx zm WX WM → ∃ (r : Int32) (WX2 WM2 : va_W), px_St l (dC, dI) (px_TY cyI cyZ cyJ cyB cyO) yX10_of wsX10_of ({ frames := 2, cells := 0, slots := 0, locals := 43 } : Room) [.ref zx, .int a0, .int a1] (.int r) WX WX2 ∧ px_St l (dC, dI) (px_TY cyI cyZ cyJ cyB cyO) yX11_of wsX11_of ({ frames := 2, cells := 0, slots := 0, locals := 46 } : Room) [.ref zm, .int a0, .int a1] (.int r) WM WM2 ∧ I zx zm WX2 WM2
def sm_hush (l : Launch) (sK sV tS : Nat → Nat) (dC : Nat → ClassId) (dI : Nat → Nat → Nat) (cyI cyZ cyJ cyB cyO : ClassId) (I : Nat → Nat → va_W → va_W → Prop) : Prop := ∀ (zx zm : Nat) (WX WM : va_W) (a0 : Int32) (a1 : Int32), (a1 = 0 ∨ a1 = 1) → I zx zm WX WM → ∃ (r : Int32) (WX2 WM2 : va_W), px_St l (dC, dI) (px_TY cyI cyZ cyJ cyB cyO) yX10_hush wsX10_hush ({ frames := 2, cells := 0, slots := 0, locals := 43 } : Room) [.ref zx, .int a0, .int a1] (.int r) WX WX2 ∧ px_St l (dC, dI) (px_TY cyI cyZ cyJ cyB cyO) yX11_hush wsX11_hush ({ frames := 2, cells := 0, slots := 0, locals := 46 } : Room) [.ref zm, .int a0, .int a1] (.int r) WM WM2 ∧ I zx zm WX2 WM2
def sm_wake (l : Launch) (sK sV tS : Nat → Nat) (dC : Nat → ClassId) (dI : Nat → Nat → Nat) (cyI cyZ cyJ cyB cyO : ClassId) (I : Nat → Nat → va_W → va_W → Prop) : Prop := ∀ (zx zm : Nat) (WX WM : va_W), I zx zm WX WM → ∃ (r : Int32) (WX2 WM2 : va_W), px_St l (dC, dI) (px_TY cyI cyZ cyJ cyB cyO) yX10_wake wsX10_wake ({ frames := 1, cells := 0, slots := 0, locals := 22 } : Room) [.ref zx] (.int r) WX WX2 ∧ px_St l (dC, dI) (px_TY cyI cyZ cyJ cyB cyO) yX11_wake wsX11_wake ({ frames := 2, cells := 0, slots := 0, locals := 42 } : Room) [.ref zm] (.int r) WM WM2 ∧ I zx zm WX2 WM2
def sm_block (l : Launch) (sK sV tS : Nat → Nat) (dC : Nat → ClassId) (dI : Nat → Nat → Nat) (cyI cyZ cyJ cyB cyO : ClassId) (I : Nat → Nat → va_W → va_W → Prop) : Prop := ∀ (zx zm : Nat) (WX WM : va_W) (a0 : Int32) (a1 : Int32), I zx zm WX WM → ∃ (r : Int32) (WX2 WM2 : va_W), px_St l (dC, dI) (px_TY cyI cyZ cyJ cyB cyO) yX10_block wsX10_block ({ frames := 1, cells := 0, slots := 0, locals := 22 } : Room) [.ref zx, .int a0, .int a1] (.int r) WX WX2 ∧ px_St l (dC, dI) (px_TY cyI cyZ cyJ cyB cyO) yX11_block wsX11_block ({ frames := 1, cells := 0, slots := 0, locals := 25 } : Room) [.ref zm, .int a0, .int a1] (.int r) WM WM2 ∧ I zx zm WX2 WM2
def sm_ask (l : Launch) (sK sV tS : Nat → Nat) (dC : Nat → ClassId) (dI : Nat → Nat → Nat) (cyI cyZ cyJ cyB cyO : ClassId) (I : Nat → Nat → va_W → va_W → Prop) : Prop := ∀ (zx zm : Nat) (WX WM : va_W) (a0 : Int32) (a1 : Int32) (a2 : Int32), I zx zm WX WM → ∃ (r : Int32) (WX2 WM2 : va_W), px_St l (dC, dI) (px_TY cyI cyZ cyJ cyB cyO) yX10_ask wsX10_ask ({ frames := 3, cells := 0, slots := 0, locals := 75 } : Room) [.ref zx, .int a0, .int a1, .int a2] (.int r) WX WX2 ∧ px_St l (dC, dI) (px_TY cyI cyZ cyJ cyB cyO) yX11_ask wsX11_ask ({ frames := 1, cells := 0, slots := 0, locals := 26 } : Room) [.ref zm, .int a0, .int a1, .int a2] (.int r) WM WM2 ∧ I zx zm WX2 WM2
def sm_tree (l : Launch) (sK sV tS : Nat → Nat) (dC : Nat → ClassId) (dI : Nat → Nat → Nat) (cyI cyZ cyJ cyB cyO : ClassId) (I : Nat → Nat → va_W → va_W → Prop) : Prop := ∀ (zx zm : Nat) (WX WM : va_W) (a0 : Int32), I zx zm WX WM → ∃ (r : Int32) (WX2 WM2 : va_W), px_St l (dC, dI) (px_TY cyI cyZ cyJ cyB cyO) yX10_tree wsX10_tree ({ frames := 5, cells := 0, slots := 0, locals := 122 } : Room) [.ref zx, .int a0] (.int r) WX WX2 ∧ px_St l (dC, dI) (px_TY cyI cyZ cyJ cyB cyO) yX11_tree wsX11_tree ({ frames := 2, cells := 0, slots := 0, locals := 52 } : Room) [.ref zm, .int a0] (.int r) WM WM2 ∧ I zx zm WX2 WM2
def sm_grown (l : Launch) (sK sV tS : Nat → Nat) (dC : Nat → ClassId) (dI : Nat → Nat → Nat) (cyI cyZ cyJ cyB cyO : ClassId) (I : Nat → Nat → va_W → va_W → Prop) : Prop := ∀ (zx zm : Nat) (WX WM : va_W) (a0 : Int32), I zx zm WX WM → ∃ (r : Int32) (WX2 WM2 : va_W), px_St l (dC, dI) (px_TY cyI cyZ cyJ cyB cyO) yX10_grown wsX10_grown ({ frames := 1, cells := 0, slots := 0, locals := 22 } : Room) [.ref zx, .int a0] (.int r) WX WX2 ∧ px_St l (dC, dI) (px_TY cyI cyZ cyJ cyB cyO) yX11_grown wsX11_grown ({ frames := 1, cells := 0, slots := 0, locals := 25 } : Room) [.ref zm, .int a0] (.int r) WM WM2 ∧ I zx zm WX2 WM2
def sm_heard (l : Launch) (sK sV tS : Nat → Nat) (dC : Nat → ClassId) (dI : Nat → Nat → Nat) (cyI cyZ cyJ cyB cyO : ClassId) (I : Nat → Nat → va_W → va_W → Prop) : Prop := ∀ (zx zm : Nat) (WX WM : va_W) (a0 : Int32) (a1 : Int32), I zx zm WX WM → ∃ (r : Int32) (WX2 WM2 : va_W), px_St l (dC, dI) (px_TY cyI cyZ cyJ cyB cyO) yX10_heard wsX10_heard ({ frames := 1, cells := 0, slots := 0, locals := 22 } : Room) [.ref zx, .int a0, .int a1] (.int r) WX WX2 ∧ px_St l (dC, dI) (px_TY cyI cyZ cyJ cyB cyO) yX11_heard wsX11_heard ({ frames := 1, cells := 0, slots := 0, locals := 25 } : Room) [.ref zm, .int a0, .int a1] (.int r) WM WM2 ∧ I zx zm WX2 WM2
def sm_learns (l : Launch) (sK sV tS : Nat → Nat) (dC : Nat → ClassId) (dI : Nat → Nat → Nat) (cyI cyZ cyJ cyB cyO : ClassId) (I : Nat → Nat → va_W → va_W → Prop) : Prop := ∀ (zx zm : Nat) (WX WM : va_W) (a0 : Int32), I zx zm WX WM → ∃ (r : Int32) (WX2 WM2 : va_W), px_St l (dC, dI) (px_TY cyI cyZ cyJ cyB cyO) yX10_learns wsX10_learns ({ frames := 2, cells := 0, slots := 0, locals := 43 } : Room) [.ref zx, .int a0] (.int r) WX WX2 ∧ px_St l (dC, dI) (px_TY cyI cyZ cyJ cyB cyO) yX11_learns wsX11_learns ({ frames := 2, cells := 0, slots := 0, locals := 46 } : Room) [.ref zm, .int a0] (.int r) WM WM2 ∧ I zx zm WX2 WM2
def sm_would (l : Launch) (sK sV tS : Nat → Nat) (dC : Nat → ClassId) (dI : Nat → Nat → Nat) (cyI cyZ cyJ cyB cyO : ClassId) (I : Nat → Nat → va_W → va_W → Prop) : Prop := ∀ (zx zm : Nat) (WX WM : va_W) (a0 : Int32) (a1 : Int32), I zx zm WX WM → ∃ (r : Int32) (WX2 WM2 : va_W), px_St l (dC, dI) (px_TY cyI cyZ cyJ cyB cyO) yX10_would wsX10_would ({ frames := 5, cells := 0, slots := 0, locals := 122 } : Room) [.ref zx, .int a0, .int a1] (.int r) WX WX2 ∧ px_St l (dC, dI) (px_TY cyI cyZ cyJ cyB cyO) yX11_would wsX11_would ({ frames := 1, cells := 0, slots := 0, locals := 31 } : Room) [.ref zm, .int a0, .int a1] (.int r) WM WM2 ∧ I zx zm WX2 WM2
def sm_most (l : Launch) (sK sV tS : Nat → Nat) (dC : Nat → ClassId) (dI : Nat → Nat → Nat) (cyI cyZ cyJ cyB cyO : ClassId) (I : Nat → Nat → va_W → va_W → Prop) : Prop := ∀ (zx zm : Nat) (WX WM : va_W) (a0 : Int32) (a1 : Int32) (a2 : Int32), I zx zm WX WM → ∃ (r : Int32) (WX2 WM2 : va_W), px_St l (dC, dI) (px_TY cyI cyZ cyJ cyB cyO) yX10_most wsX10_most ({ frames := 3, cells := 0, slots := 0, locals := 75 } : Room) [.ref zx, .int a0, .int a1, .int a2] (.int r) WX WX2 ∧ px_St l (dC, dI) (px_TY cyI cyZ cyJ cyB cyO) yX11_most wsX11_most ({ frames := 1, cells := 0, slots := 0, locals := 25 } : Room) [.ref zm, .int a0, .int a1, .int a2] (.int r) WM WM2 ∧ I zx zm WX2 WM2
def sm_feed (l : Launch) (sK sV tS : Nat → Nat) (dC : Nat → ClassId) (dI : Nat → Nat → Nat) (cyI cyZ cyJ cyB cyO : ClassId) (I : Nat → Nat → va_W → va_W → Prop) : Prop := ∀ (zx zm : Nat) (WX WM : va_W) (a0 : Int64), I zx zm WX WM → ∃ (r : Int32) (WX2 WM2 : va_W), px_St l (dC, dI) (px_TY cyI cyZ cyJ cyB cyO) yX10_feed wsX10_feed ({ frames := 1, cells := 0, slots := 0, locals := 23 } : Room) [.ref zx, .long a0] (.int r) WX WX2 ∧ px_St l (dC, dI) (px_TY cyI cyZ cyJ cyB cyO) yX11_feed wsX11_feed ({ frames := 0, cells := 0, slots := 0, locals := 0 } : Room) [.ref zm, .long a0] (.int r) WM WM2 ∧ I zx zm WX2 WM2
def sm_end (l : Launch) (sK sV tS : Nat → Nat) (dC : Nat → ClassId) (dI : Nat → Nat → Nat) (cyI cyZ cyJ cyB cyO : ClassId) (I : Nat → Nat → va_W → va_W → Prop) : Prop := ∀ (zx zm : Nat) (WX WM : va_W) (a0 : Int32), I zx zm WX WM → ∃ (r : Int32) (WX2 WM2 : va_W), px_St l (dC, dI) (px_TY cyI cyZ cyJ cyB cyO) yX10_end wsX10_end ({ frames := 1, cells := 0, slots := 0, locals := 22 } : Room) [.ref zx, .int a0] (.int r) WX WX2 ∧ px_St l (dC, dI) (px_TY cyI cyZ cyJ cyB cyO) yX11_end wsX11_end ({ frames := 1, cells := 0, slots := 0, locals := 25 } : Room) [.ref zm, .int a0] (.int r) WM WM2 ∧ I zx zm WX2 WM2
def sm_rules (l : Launch) (sK sV tS : Nat → Nat) (dC : Nat → ClassId) (dI : Nat → Nat → Nat) (cyI cyZ cyJ cyB cyO : ClassId) (I : Nat → Nat → va_W → va_W → Prop) : Prop := ∀ (zx zm : Nat) (WX WM : va_W), I zx zm WX WM → ∃ (r : Int32) (WX2 WM2 : va_W), px_Ss l sK sV tS (dC, dI) (px_TY cyI cyZ cyJ cyB cyO) yX10_rules wsX10_rules ({ frames := 11, cells := 0, slots := 0, locals := 237 } : Room) [.ref zx] (.int r) WX WX2 ∧ px_St l (dC, dI) (px_TY cyI cyZ cyJ cyB cyO) yX11_rules wsX11_rules ({ frames := 6, cells := 0, slots := 0, locals := 131 } : Room) [.ref zm] (.int r) WM WM2 ∧ I zx zm WX2 WM2
def sm_fault (l : Launch) (sK sV tS : Nat → Nat) (dC : Nat → ClassId) (dI : Nat → Nat → Nat) (cyI cyZ cyJ cyB cyO : ClassId) (I : Nat → Nat → va_W → va_W → Prop) : Prop := ∀ (zx zm : Nat) (WX WM : va_W), I zx zm WX WM → ∃ (r : Int32) (WX2 WM2 : va_W), px_St l (dC, dI) (px_TY cyI cyZ cyJ cyB cyO) yX10_fault wsX10_fault ({ frames := 0, cells := 0, slots := 0, locals := 0 } : Room) [.ref zx] (.int r) WX WX2 ∧ px_St l (dC, dI) (px_TY cyI cyZ cyJ cyB cyO) yX11_fault wsX11_fault ({ frames := 0, cells := 0, slots := 0, locals := 0 } : Room) [.ref zm] (.int r) WM WM2 ∧ I zx zm WX2 WM2
def sm_rule (l : Launch) (sK sV tS : Nat → Nat) (dC : Nat → ClassId) (dI : Nat → Nat → Nat) (cyI cyZ cyJ cyB cyO : ClassId) (I : Nat → Nat → va_W → va_W → Prop) : Prop := ∀ (zx zm : Nat) (WX WM : va_W) (a0 : Int32), I zx zm WX WM → ∃ (r : Int32) (WX2 WM2 : va_W), px_St l (dC, dI) (px_TY cyI cyZ cyJ cyB cyO) yX10_rule wsX10_rule ({ frames := 1, cells := 0, slots := 0, locals := 22 } : Room) [.ref zx, .int a0] (.int r) WX WX2 ∧ px_St l (dC, dI) (px_TY cyI cyZ cyJ cyB cyO) yX11_rule wsX11_rule ({ frames := 1, cells := 0, slots := 0, locals := 25 } : Room) [.ref zm, .int a0] (.int r) WM WM2 ∧ I zx zm WX2 WM2
def sm_slot (l : Launch) (sK sV tS : Nat → Nat) (dC : Nat → ClassId) (dI : Nat → Nat → Nat) (cyI cyZ cyJ cyB cyO : ClassId) (I : Nat → Nat → va_W → va_W → Prop) : Prop := ∀ (zx zm : Nat) (WX WM : va_W) (a0 : Int32) (a1 : Int32) (a2 : Int32), I zx zm WX WM → ∃ (r : Int32) (WX2 WM2 : va_W), px_St l (dC, dI) (px_TY cyI cyZ cyJ cyB cyO) yX10_slot wsX10_slot ({ frames := 2, cells := 0, slots := 0, locals := 43 } : Room) [.ref zx, .int a0, .int a1, .int a2] (.int r) WX WX2 ∧ px_St l (dC, dI) (px_TY cyI cyZ cyJ cyB cyO) yX11_slot wsX11_slot ({ frames := 2, cells := 0, slots := 0, locals := 46 } : Room) [.ref zm, .int a0, .int a1, .int a2] (.int r) WM WM2 ∧ I zx zm WX2 WM2
def sm_frame (l : Launch) (sK sV tS : Nat → Nat) (dC : Nat → ClassId) (dI : Nat → Nat → Nat) (cyI cyZ cyJ cyB cyO : ClassId) (I : Nat → Nat → va_W → va_W → Prop) : Prop := ∀ (zx zm : Nat) (WX WM : va_W) (a0 : Int32) (a1 : Int32), I zx zm WX WM → ∃ (r : Int32) (WX2 WM2 : va_W), px_St l (dC, dI) (px_TY cyI cyZ cyJ cyB cyO) yX10_frame wsX10_frame ({ frames := 3, cells := 0, slots := 0, locals := 74 } : Room) [.ref zx, .int a0, .int a1] (.int r) WX WX2 ∧ px_St l (dC, dI) (px_TY cyI cyZ cyJ cyB cyO) yX11_frame wsX11_frame ({ frames := 3, cells := 0, slots := 0, locals := 76 } : Room) [.ref zm, .int a0, .int a1] (.int r) WM WM2 ∧ I zx zm WX2 WM2
def sm_shown (l : Launch) (sK sV tS : Nat → Nat) (dC : Nat → ClassId) (dI : Nat → Nat → Nat) (cyI cyZ cyJ cyB cyO : ClassId) (I : Nat → Nat → va_W → va_W → Prop) : Prop := ∀ (zx zm : Nat) (WX WM : va_W) (a0 : Int32), I zx zm WX WM → ∃ (r : Int32) (WX2 WM2 : va_W), px_St l (dC, dI) (px_TY cyI cyZ cyJ cyB cyO) yX10_shown wsX10_shown ({ frames := 1, cells := 0, slots := 0, locals := 22 } : Room) [.ref zx, .int a0] (.int r) WX WX2 ∧ px_St l (dC, dI) (px_TY cyI cyZ cyJ cyB cyO) yX11_shown wsX11_shown ({ frames := 1, cells := 0, slots := 0, locals := 25 } : Room) [.ref zm, .int a0] (.int r) WM WM2 ∧ I zx zm WX2 WM2
def sm_all (l : Launch) (sK sV tS : Nat → Nat) (dC : Nat → ClassId) (dI : Nat → Nat → Nat) (cyI cyZ cyJ cyB cyO : ClassId) (I : Nat → Nat → va_W → va_W → Prop) : Prop := ∀ (zx zm : Nat) (WX WM : va_W) (a0 : Int32), I zx zm WX WM → ∃ (r : Int32) (WX2 WM2 : va_W), px_St l (dC, dI) (px_TY cyI cyZ cyJ cyB cyO) yX10_all wsX10_all ({ frames := 4, cells := 0, slots := 0, locals := 101 } : Room) [.ref zx, .int a0] (.int r) WX WX2 ∧ px_St l (dC, dI) (px_TY cyI cyZ cyJ cyB cyO) yX11_all wsX11_all ({ frames := 3, cells := 0, slots := 0, locals := 76 } : Room) [.ref zm, .int a0] (.int r) WM WM2 ∧ I zx zm WX2 WM2
def sm_went (l : Launch) (sK sV tS : Nat → Nat) (dC : Nat → ClassId) (dI : Nat → Nat → Nat) (cyI cyZ cyJ cyB cyO : ClassId) (I : Nat → Nat → va_W → va_W → Prop) : Prop := ∀ (zx zm : Nat) (WX WM : va_W) (a0 : Int32), I zx zm WX WM → ∃ (r : Int32) (WX2 WM2 : va_W), px_St l (dC, dI) (px_TY cyI cyZ cyJ cyB cyO) yX10_went wsX10_went ({ frames := 1, cells := 0, slots := 0, locals := 22 } : Room) [.ref zx, .int a0] (.int r) WX WX2 ∧ px_St l (dC, dI) (px_TY cyI cyZ cyJ cyB cyO) yX11_went wsX11_went ({ frames := 1, cells := 0, slots := 0, locals := 25 } : Room) [.ref zm, .int a0] (.int r) WM WM2 ∧ I zx zm WX2 WM2
def sm_alone (l : Launch) (sK sV tS : Nat → Nat) (dC : Nat → ClassId) (dI : Nat → Nat → Nat) (cyI cyZ cyJ cyB cyO : ClassId) (I : Nat → Nat → va_W → va_W → Prop) : Prop := ∀ (zx zm : Nat) (WX WM : va_W) (a0 : Int32) (a1 : Int32) (a2 : Int32) (a3 : Int32), I zx zm WX WM → ∃ (r : Int64) (WX2 WM2 : va_W), px_St l (dC, dI) (px_TY cyI cyZ cyJ cyB cyO) yX10_alone wsX10_alone ({ frames := 4, cells := 0, slots := 0, locals := 97 } : Room) [.ref zx, .int a0, .int a1, .int a2, .int a3] (.long r) WX WX2 ∧ px_St l (dC, dI) (px_TY cyI cyZ cyJ cyB cyO) yX11_alone wsX11_alone ({ frames := 2, cells := 0, slots := 0, locals := 55 } : Room) [.ref zm, .int a0, .int a1, .int a2, .int a3] (.long r) WM WM2 ∧ I zx zm WX2 WM2
def sm_mean (l : Launch) (sK sV tS : Nat → Nat) (dC : Nat → ClassId) (dI : Nat → Nat → Nat) (cyI cyZ cyJ cyB cyO : ClassId) (I : Nat → Nat → va_W → va_W → Prop) : Prop := ∀ (zx zm : Nat) (WX WM : va_W) (a0 : Int32) (a1 : Int32) (a2 : Int32), I zx zm WX WM → ∃ (r : Int64) (WX2 WM2 : va_W), px_St l (dC, dI) (px_TY cyI cyZ cyJ cyB cyO) yX10_mean wsX10_mean ({ frames := 2, cells := 0, slots := 0, locals := 56 } : Room) [.ref zx, .int a0, .int a1, .int a2] (.long r) WX WX2 ∧ px_St l (dC, dI) (px_TY cyI cyZ cyJ cyB cyO) yX11_mean wsX11_mean ({ frames := 2, cells := 0, slots := 0, locals := 55 } : Room) [.ref zm, .int a0, .int a1, .int a2] (.long r) WM WM2 ∧ I zx zm WX2 WM2
def sm_best (l : Launch) (sK sV tS : Nat → Nat) (dC : Nat → ClassId) (dI : Nat → Nat → Nat) (cyI cyZ cyJ cyB cyO : ClassId) (I : Nat → Nat → va_W → va_W → Prop) : Prop := ∀ (zx zm : Nat) (WX WM : va_W) (a0 : Int32), I zx zm WX WM → ∃ (r : Int32) (WX2 WM2 : va_W), px_St l (dC, dI) (px_TY cyI cyZ cyJ cyB cyO) yX10_best wsX10_best ({ frames := 1, cells := 0, slots := 0, locals := 25 } : Room) [.ref zx, .int a0] (.int r) WX WX2 ∧ px_St l (dC, dI) (px_TY cyI cyZ cyJ cyB cyO) yX11_best wsX11_best ({ frames := 1, cells := 0, slots := 0, locals := 25 } : Room) [.ref zm, .int a0] (.int r) WM WM2 ∧ I zx zm WX2 WM2
def sm_guess (l : Launch) (sK sV tS : Nat → Nat) (dC : Nat → ClassId) (dI : Nat → Nat → Nat) (cyI cyZ cyJ cyB cyO : ClassId) (I : Nat → Nat → va_W → va_W → Prop) : Prop := ∀ (zx zm : Nat) (WX WM : va_W) (a0 : Int32) (a1 : Int32) (a2 : Int32), I zx zm WX WM → ∃ (r : Int32) (WX2 WM2 : va_W), px_St l (dC, dI) (px_TY cyI cyZ cyJ cyB cyO) yX10_guess wsX10_guess ({ frames := 4, cells := 0, slots := 0, locals := 103 } : Room) [.ref zx, .int a0, .int a1, .int a2] (.int r) WX WX2 ∧ px_St l (dC, dI) (px_TY cyI cyZ cyJ cyB cyO) yX11_guess wsX11_guess ({ frames := 3, cells := 0, slots := 0, locals := 72 } : Room) [.ref zm, .int a0, .int a1, .int a2] (.int r) WM WM2 ∧ I zx zm WX2 WM2
def sm_ways (l : Launch) (sK sV tS : Nat → Nat) (dC : Nat → ClassId) (dI : Nat → Nat → Nat) (cyI cyZ cyJ cyB cyO : ClassId) (I : Nat → Nat → va_W → va_W → Prop) : Prop := ∀ (zx zm : Nat) (WX WM : va_W) (a0 : Int32) (a1 : Int32) (a2 : Int32) (a3 : Int32), I zx zm WX WM → ∃ (r : Int64) (WX2 WM2 : va_W), px_St l (dC, dI) (px_TY cyI cyZ cyJ cyB cyO) yX10_ways wsX10_ways ({ frames := 3, cells := 0, slots := 0, locals := 74 } : Room) [.ref zx, .int a0, .int a1, .int a2, .int a3] (.long r) WX WX2 ∧ px_St l (dC, dI) (px_TY cyI cyZ cyJ cyB cyO) yX11_ways wsX11_ways ({ frames := 3, cells := 0, slots := 0, locals := 72 } : Room) [.ref zm, .int a0, .int a1, .int a2, .int a3] (.long r) WM WM2 ∧ I zx zm WX2 WM2
def sm_know (l : Launch) (sK sV tS : Nat → Nat) (dC : Nat → ClassId) (dI : Nat → Nat → Nat) (cyI cyZ cyJ cyB cyO : ClassId) (I : Nat → Nat → va_W → va_W → Prop) : Prop := ∀ (zx zm : Nat) (WX WM : va_W) (a0 : Int32), I zx zm WX WM → ∃ (r : Int32) (WX2 WM2 : va_W), px_St l (dC, dI) (px_TY cyI cyZ cyJ cyB cyO) yX10_know wsX10_know ({ frames := 2, cells := 0, slots := 0, locals := 43 } : Room) [.ref zx, .int a0] (.int r) WX WX2 ∧ px_St l (dC, dI) (px_TY cyI cyZ cyJ cyB cyO) yX11_know wsX11_know ({ frames := 2, cells := 0, slots := 0, locals := 46 } : Room) [.ref zm, .int a0] (.int r) WM WM2 ∧ I zx zm WX2 WM2
def sm_forget (l : Launch) (sK sV tS : Nat → Nat) (dC : Nat → ClassId) (dI : Nat → Nat → Nat) (cyI cyZ cyJ cyB cyO : ClassId) (I : Nat → Nat → va_W → va_W → Prop) : Prop := ∀ (zx zm : Nat) (WX WM : va_W), I zx zm WX WM → ∃ (r : Int32) (WX2 WM2 : va_W), px_St l (dC, dI) (px_TY cyI cyZ cyJ cyB cyO) yX10_forget wsX10_forget ({ frames := 0, cells := 0, slots := 0, locals := 0 } : Room) [.ref zx] (.int r) WX WX2 ∧ px_St l (dC, dI) (px_TY cyI cyZ cyJ cyB cyO) yX11_forget wsX11_forget ({ frames := 0, cells := 0, slots := 0, locals := 0 } : Room) [.ref zm] (.int r) WM WM2 ∧ I zx zm WX2 WM2
def sm_missing (l : Launch) (sK sV tS : Nat → Nat) (dC : Nat → ClassId) (dI : Nat → Nat → Nat) (cyI cyZ cyJ cyB cyO : ClassId) (I : Nat → Nat → va_W → va_W → Prop) : Prop := ∀ (zx zm : Nat) (WX WM : va_W) (a0 : Int32) (a1 : Int32) (a2 : Int32), I zx zm WX WM → ∃ (r : Int32) (WX2 WM2 : va_W), px_St l (dC, dI) (px_TY cyI cyZ cyJ cyB cyO) yX10_missing wsX10_missing ({ frames := 2, cells := 0, slots := 0, locals := 48 } : Room) [.ref zx, .int a0, .int a1, .int a2] (.int r) WX WX2 ∧ px_St l (dC, dI) (px_TY cyI cyZ cyJ cyB cyO) yX11_missing wsX11_missing ({ frames := 1, cells := 0, slots := 0, locals := 25 } : Room) [.ref zm, .int a0, .int a1, .int a2] (.int r) WM WM2 ∧ I zx zm WX2 WM2
def sm_seen (l : Launch) (sK sV tS : Nat → Nat) (dC : Nat → ClassId) (dI : Nat → Nat → Nat) (cyI cyZ cyJ cyB cyO : ClassId) (I : Nat → Nat → va_W → va_W → Prop) : Prop := ∀ (zx zm : Nat) (WX WM : va_W) (a0 : Int32) (a1 : Int32), I zx zm WX WM → ∃ (r : Int32) (WX2 WM2 : va_W), px_St l (dC, dI) (px_TY cyI cyZ cyJ cyB cyO) yX10_seen wsX10_seen ({ frames := 2, cells := 0, slots := 0, locals := 47 } : Room) [.ref zx, .int a0, .int a1] (.int r) WX WX2 ∧ px_St l (dC, dI) (px_TY cyI cyZ cyJ cyB cyO) yX11_seen wsX11_seen ({ frames := 2, cells := 0, slots := 0, locals := 50 } : Room) [.ref zm, .int a0, .int a1] (.int r) WM WM2 ∧ I zx zm WX2 WM2
def sm_seed (l : Launch) (sK sV tS : Nat → Nat) (dC : Nat → ClassId) (dI : Nat → Nat → Nat) (cyI cyZ cyJ cyB cyO : ClassId) (I : Nat → Nat → va_W → va_W → Prop) : Prop := ∀ (zx zm : Nat) (WX WM : va_W) (a0 : Int32) (a1 : Int32), I zx zm WX WM → ∃ (r : Int32) (WX2 WM2 : va_W), px_St l (dC, dI) (px_TY cyI cyZ cyJ cyB cyO) yX10_seed wsX10_seed ({ frames := 2, cells := 0, slots := 0, locals := 47 } : Room) [.ref zx, .int a0, .int a1] (.int r) WX WX2 ∧ px_St l (dC, dI) (px_TY cyI cyZ cyJ cyB cyO) yX11_seed wsX11_seed ({ frames := 2, cells := 0, slots := 0, locals := 50 } : Room) [.ref zm, .int a0, .int a1] (.int r) WM WM2 ∧ I zx zm WX2 WM2
def sm_sheet (l : Launch) (sK sV tS : Nat → Nat) (dC : Nat → ClassId) (dI : Nat → Nat → Nat) (cyI cyZ cyJ cyB cyO : ClassId) (I : Nat → Nat → va_W → va_W → Prop) : Prop := ∀ (zx zm : Nat) (WX WM : va_W) (a0 : Int32) (a1 : Int32) (a2 : Int32), I zx zm WX WM → ∃ (r : Int32) (WX2 WM2 : va_W), px_St l (dC, dI) (px_TY cyI cyZ cyJ cyB cyO) yX10_sheet wsX10_sheet ({ frames := 2, cells := 0, slots := 0, locals := 45 } : Room) [.ref zx, .int a0, .int a1, .int a2] (.int r) WX WX2 ∧ px_St l (dC, dI) (px_TY cyI cyZ cyJ cyB cyO) yX11_sheet wsX11_sheet ({ frames := 2, cells := 0, slots := 0, locals := 46 } : Room) [.ref zm, .int a0, .int a1, .int a2] (.int r) WM WM2 ∧ I zx zm WX2 WM2
def sm_lay (l : Launch) (sK sV tS : Nat → Nat) (dC : Nat → ClassId) (dI : Nat → Nat → Nat) (cyI cyZ cyJ cyB cyO : ClassId) (I : Nat → Nat → va_W → va_W → Prop) : Prop := ∀ (zx zm : Nat) (WX WM : va_W) (a0 : Int32) (a1 : Int32) (a2 : Int32), I zx zm WX WM → ∃ (r : Int32) (WX2 WM2 : va_W), px_St l (dC, dI) (px_TY cyI cyZ cyJ cyB cyO) yX10_lay wsX10_lay ({ frames := 3, cells := 0, slots := 0, locals := 65 } : Room) [.ref zx, .int a0, .int a1, .int a2] (.int r) WX WX2 ∧ px_St l (dC, dI) (px_TY cyI cyZ cyJ cyB cyO) yX11_lay wsX11_lay ({ frames := 2, cells := 0, slots := 0, locals := 46 } : Room) [.ref zm, .int a0, .int a1, .int a2] (.int r) WM WM2 ∧ I zx zm WX2 WM2
def sm_read (l : Launch) (sK sV tS : Nat → Nat) (dC : Nat → ClassId) (dI : Nat → Nat → Nat) (cyI cyZ cyJ cyB cyO : ClassId) (I : Nat → Nat → va_W → va_W → Prop) : Prop := ∀ (zx zm : Nat) (WX WM : va_W) (a0 : Int32) (a1 : Int32) (a2 : Int32) (a3 : Int32), I zx zm WX WM → ∃ (r : Int32) (WX2 WM2 : va_W), px_St l (dC, dI) (px_TY cyI cyZ cyJ cyB cyO) yX10_read wsX10_read ({ frames := 4, cells := 0, slots := 0, locals := 90 } : Room) [.ref zx, .int a0, .int a1, .int a2, .int a3] (.int r) WX WX2 ∧ px_St l (dC, dI) (px_TY cyI cyZ cyJ cyB cyO) yX11_read wsX11_read ({ frames := 2, cells := 0, slots := 0, locals := 46 } : Room) [.ref zm, .int a0, .int a1, .int a2, .int a3] (.int r) WM WM2 ∧ I zx zm WX2 WM2
def sm_torn (l : Launch) (sK sV tS : Nat → Nat) (dC : Nat → ClassId) (dI : Nat → Nat → Nat) (cyI cyZ cyJ cyB cyO : ClassId) (I : Nat → Nat → va_W → va_W → Prop) : Prop := ∀ (zx zm : Nat) (WX WM : va_W), I zx zm WX WM → ∃ (r : Int32) (WX2 WM2 : va_W), px_St l (dC, dI) (px_TY cyI cyZ cyJ cyB cyO) yX10_torn wsX10_torn ({ frames := 0, cells := 0, slots := 0, locals := 0 } : Room) [.ref zx] (.int r) WX WX2 ∧ px_St l (dC, dI) (px_TY cyI cyZ cyJ cyB cyO) yX11_torn wsX11_torn ({ frames := 0, cells := 0, slots := 0, locals := 0 } : Room) [.ref zm] (.int r) WM WM2 ∧ I zx zm WX2 WM2
def sm_count (l : Launch) (sK sV tS : Nat → Nat) (dC : Nat → ClassId) (dI : Nat → Nat → Nat) (cyI cyZ cyJ cyB cyO : ClassId) (I : Nat → Nat → va_W → va_W → Prop) : Prop := ∀ (zx zm : Nat) (WX WM : va_W) (a0 : Int32), I zx zm WX WM → ∃ (r : Int32) (WX2 WM2 : va_W), px_St l (dC, dI) (px_TY cyI cyZ cyJ cyB cyO) yX10_count wsX10_count ({ frames := 1, cells := 0, slots := 0, locals := 22 } : Room) [.ref zx, .int a0] (.int r) WX WX2 ∧ px_St l (dC, dI) (px_TY cyI cyZ cyJ cyB cyO) yX11_count wsX11_count ({ frames := 2, cells := 0, slots := 0, locals := 42 } : Room) [.ref zm, .int a0] (.int r) WM WM2 ∧ I zx zm WX2 WM2
theorem px_cmp (r : Int64) : lg_cmp r r = 0 := by
  unfold lg_cmp
  rw [if_neg (fun h : r > r => Int64.lt_irrefl h), if_pos rfl]
theorem lw_c70 : (.constantLong RL 70 (4294967295) : Cond) ∈ wsL_law := List.mem_of_getElem? (i := 6) (by decide +kernel)
set_option maxHeartbeats 4000000 in
set_option maxRecDepth 100000 in
theorem lwc_bits {p : Program} {l : Launch} {e : Env} {s : State} {m : MethodId} {below : List Frame} {meth : Method} {c : Code} {Q : State → Prop} (dC : Nat → ClassId) (dI : Nat → Nat → Nat) (cyI cyZ cyJ cyB cyO : ClassId) (sK sV tS : Nat → Nat) (b L C S : Nat) (xs : Nat → Int32) (I : Nat → Nat → va_W → va_W → Prop) (hx : p.tables.exec = Jvm.exec) (hb : c.code = cL_law) (hml : c.maxLocals = 4) (hts : ∀ w ∈ wsL_law, w.before #[Value.ref b] s = true) (hown : s.vm.findClass RL = some m.cls) (hX : va_X b L xs s s.heap) (hbl : b < s.heap.size) (hK : va_K (dC, dI) vwCl (px_TY cyI cyZ cyJ cyB cyO) s) (hN : px_NW s) (hG : px_SG sK sV tS (fun q : Nat => s.heap.size ≤ q) s s.heap) (hC : C ≤ 600000) (hSl : S ≤ 7302250) (hrx : ∀ hx hm WX WM, I hx hm WX WM → ∃ fs, WX[0]? = some (hx, .inr (10, fs))) (hrm : ∀ hx hm WX WM, I hx hm WX WM → ∃ fs, WM[0]? = some (hm, .inr (11, fs))) (h_st : sm_bits l sK sV tS dC dI cyI cyZ cyJ cyB cyO I) (zx zm : Nat) (WX WM : va_W) (hI : I zx zm WX WM) (x3 : Int32) (h0 : vp_in x3 L) (h1 : vp_in (x3 + 1) L) (h2 : vp_in (x3 + 2) L) (h3 : vp_in (x3 + 3) L) (h4 : vp_in (x3 + 4) L) (ls : Array Slot) (fin : ∀ (H : Heap) (locs : List Loc) (WX2 WM2 : va_W), I zx zm WX2 WM2 → va_P (dC, dI) vwCl (WX2 ++ WM2) H → va_D (fun q : Nat => s.heap.size ≤ q) (WX2 ++ WM2) → va_S (fun q : Nat => s.heap.size ≤ q) s.heap H locs → W p l e room_1 s m #[Value.ref b] below meth c H locs C S Q (F0 m 1413 ls [])) (H : Heap) (locs : List Loc) (hP : va_P (dC, dI) vwCl (WX ++ WM) H) (hD : va_D (fun q : Nat => s.heap.size ≤ q) (WX ++ WM)) (hS : va_S (fun q : Nat => s.heap.size ≤ q) s.heap H locs) (hl : lv_has ls 4 [(3, .int x3), (2, .ref zm), (1, .ref zx), (0, .ref b)]) : W p l e room_1 s m #[Value.ref b] below meth c H locs C S Q (F0 m 200 ls []) := by
  have hA : ∀ q : Nat, s.heap.size ≤ q → (fun q : Nat => s.heap.size ≤ q) q := fun _ h => h
  have hbA : ¬ (fun q : Nat => s.heap.size ≤ q) b := Nat.not_le.mpr hbl
  refine lv_aload_n hx hb dL_law_200 rfl (lv_at hl 2 rfl) ?_
  refine lv_aload_n hx hb dL_law_201 rfl (lv_at hl 3 rfl) ?_
  refine lv_iload_n hx hb dL_law_202 rfl (lv_at hl 0 rfl) ?_
  refine lv_iconst (v := (1 : Int32)) hx hb dL_law_203 (by decide) ?_
  refine lv_iadd hx hb dL_law_204 ?_
  refine va_sld hx hb hX hbl hbA hS h1 dL_law_205 ?_
  obtain ⟨r, WX2, WM2, k1, k2, hI2⟩ := h_st zx zm WX WM ((xs (Int32.toNatClampNeg (x3 + (1 : Int32))))) hI
  obtain ⟨fx, hfx⟩ := hrx _ _ _ _ hI
  obtain ⟨fm, hfm⟩ := hrm _ _ _ _ hI
  refine px_callL (w1' := WX2) (va_runV (As := [.int (xs (Int32.toNatClampNeg (x3 + (1 : Int32))))]) (rest := []) ⟨hx, hb, hml, hown, hts⟩ (k1 H.size) (cwV 1 hts gL_law_X10_bits rfl rfl rfl hvX10_bits ⟨Nat.le_of_ble_eq_true rfl, Nat.le_of_ble_eq_true rfl⟩) (px_preL (ci := 10) hK hN hP hD rfl hfx) rfl rfl hl.1 rfl (lv_room (Nat.le_of_ble_eq_true rfl)) dL_law_206 ⟨hC, hSl⟩) hP hD hS hA (fun H locs hP hD hS => ?_)
  refine W.eq (g2 := F0 m 209 ls [.int r]) rfl ?_
  refine lv_aload_n hx hb dL_law_209 rfl (lv_at hl 1 rfl) ?_
  refine lv_aload_n hx hb dL_law_210 rfl (lv_at hl 3 rfl) ?_
  refine lv_iload_n hx hb dL_law_211 rfl (lv_at hl 0 rfl) ?_
  refine lv_iconst (v := (1 : Int32)) hx hb dL_law_212 (by decide) ?_
  refine lv_iadd hx hb dL_law_213 ?_
  refine va_sld hx hb hX hbl hbA hS h1 dL_law_214 ?_
  refine px_callY (w2' := WM2) (va_runV (As := [.int (xs (Int32.toNatClampNeg (x3 + (1 : Int32))))]) (rest := [.int r]) ⟨hx, hb, hml, hown, hts⟩ (k2 H.size) (cwV 1 hts gL_law_X11_bits rfl rfl rfl hvX11_bits ⟨Nat.le_of_ble_eq_true rfl, Nat.le_of_ble_eq_true rfl⟩) (px_preY (ci := 11) hK hN hP hD rfl hfm) rfl rfl hl.1 rfl (lv_room (Nat.le_of_ble_eq_true rfl)) dL_law_215 ⟨hC, hSl⟩) hP hD hS hA (fun H locs hP hD hS => ?_)
  refine W.eq (g2 := F0 m 218 ls [.int r, .int r]) rfl ?_
  refine lv_icmp_eq (tgt := 1413) hx hb dL_law_218 (by decide) (fun _ => ?_) (fun cc => absurd rfl cc)
  exact fin _ _ _ _ hI2 hP hD hS
set_option maxHeartbeats 4000000 in
set_option maxRecDepth 100000 in
theorem lwc_tag {p : Program} {l : Launch} {e : Env} {s : State} {m : MethodId} {below : List Frame} {meth : Method} {c : Code} {Q : State → Prop} (dC : Nat → ClassId) (dI : Nat → Nat → Nat) (cyI cyZ cyJ cyB cyO : ClassId) (sK sV tS : Nat → Nat) (b L C S : Nat) (xs : Nat → Int32) (I : Nat → Nat → va_W → va_W → Prop) (hx : p.tables.exec = Jvm.exec) (hb : c.code = cL_law) (hml : c.maxLocals = 4) (hts : ∀ w ∈ wsL_law, w.before #[Value.ref b] s = true) (hown : s.vm.findClass RL = some m.cls) (hX : va_X b L xs s s.heap) (hbl : b < s.heap.size) (hK : va_K (dC, dI) vwCl (px_TY cyI cyZ cyJ cyB cyO) s) (hN : px_NW s) (hG : px_SG sK sV tS (fun q : Nat => s.heap.size ≤ q) s s.heap) (hC : C ≤ 600000) (hSl : S ≤ 7302250) (hrx : ∀ hx hm WX WM, I hx hm WX WM → ∃ fs, WX[0]? = some (hx, .inr (10, fs))) (hrm : ∀ hx hm WX WM, I hx hm WX WM → ∃ fs, WM[0]? = some (hm, .inr (11, fs))) (h_st : sm_tag l sK sV tS dC dI cyI cyZ cyJ cyB cyO I) (zx zm : Nat) (WX WM : va_W) (hI : I zx zm WX WM) (x3 : Int32) (h0 : vp_in x3 L) (h1 : vp_in (x3 + 1) L) (h2 : vp_in (x3 + 2) L) (h3 : vp_in (x3 + 3) L) (h4 : vp_in (x3 + 4) L) (ls : Array Slot) (fin : ∀ (H : Heap) (locs : List Loc) (WX2 WM2 : va_W), I zx zm WX2 WM2 → va_P (dC, dI) vwCl (WX2 ++ WM2) H → va_D (fun q : Nat => s.heap.size ≤ q) (WX2 ++ WM2) → va_S (fun q : Nat => s.heap.size ≤ q) s.heap H locs → W p l e room_1 s m #[Value.ref b] below meth c H locs C S Q (F0 m 1413 ls [])) (H : Heap) (locs : List Loc) (hP : va_P (dC, dI) vwCl (WX ++ WM) H) (hD : va_D (fun q : Nat => s.heap.size ≤ q) (WX ++ WM)) (hS : va_S (fun q : Nat => s.heap.size ≤ q) s.heap H locs) (hl : lv_has ls 4 [(3, .int x3), (2, .ref zm), (1, .ref zx), (0, .ref b)]) : W p l e room_1 s m #[Value.ref b] below meth c H locs C S Q (F0 m 223 ls []) := by
  have hA : ∀ q : Nat, s.heap.size ≤ q → (fun q : Nat => s.heap.size ≤ q) q := fun _ h => h
  have hbA : ¬ (fun q : Nat => s.heap.size ≤ q) b := Nat.not_le.mpr hbl
  refine lv_aload_n hx hb dL_law_223 rfl (lv_at hl 2 rfl) ?_
  refine lv_aload_n hx hb dL_law_224 rfl (lv_at hl 3 rfl) ?_
  refine lv_iload_n hx hb dL_law_225 rfl (lv_at hl 0 rfl) ?_
  refine lv_iconst (v := (1 : Int32)) hx hb dL_law_226 (by decide) ?_
  refine lv_iadd hx hb dL_law_227 ?_
  refine va_sld hx hb hX hbl hbA hS h1 dL_law_228 ?_
  refine lv_aload_n hx hb dL_law_229 rfl (lv_at hl 3 rfl) ?_
  refine lv_iload_n hx hb dL_law_230 rfl (lv_at hl 0 rfl) ?_
  refine lv_iconst (v := (2 : Int32)) hx hb dL_law_231 (by decide) ?_
  refine lv_iadd hx hb dL_law_232 ?_
  refine va_sld hx hb hX hbl hbA hS h2 dL_law_233 ?_
  obtain ⟨r, WX2, WM2, k1, k2, hI2⟩ := h_st zx zm WX WM ((xs (Int32.toNatClampNeg (x3 + (1 : Int32))))) ((xs (Int32.toNatClampNeg (x3 + (2 : Int32))))) hI
  obtain ⟨fx, hfx⟩ := hrx _ _ _ _ hI
  obtain ⟨fm, hfm⟩ := hrm _ _ _ _ hI
  refine px_callL (w1' := WX2) (va_runV (As := [.int (xs (Int32.toNatClampNeg (x3 + (1 : Int32)))), .int (xs (Int32.toNatClampNeg (x3 + (2 : Int32))))]) (rest := []) ⟨hx, hb, hml, hown, hts⟩ (k1 H.size) (cwV 2 hts gL_law_X10_tag rfl rfl rfl hvX10_tag ⟨Nat.le_of_ble_eq_true rfl, Nat.le_of_ble_eq_true rfl⟩) (px_preL (ci := 10) hK hN hP hD rfl hfx) rfl rfl hl.1 rfl (lv_room (Nat.le_of_ble_eq_true rfl)) dL_law_234 ⟨hC, hSl⟩) hP hD hS hA (fun H locs hP hD hS => ?_)
  refine W.eq (g2 := F0 m 237 ls [.int r]) rfl ?_
  refine lv_aload_n hx hb dL_law_237 rfl (lv_at hl 1 rfl) ?_
  refine lv_aload_n hx hb dL_law_238 rfl (lv_at hl 3 rfl) ?_
  refine lv_iload_n hx hb dL_law_239 rfl (lv_at hl 0 rfl) ?_
  refine lv_iconst (v := (1 : Int32)) hx hb dL_law_240 (by decide) ?_
  refine lv_iadd hx hb dL_law_241 ?_
  refine va_sld hx hb hX hbl hbA hS h1 dL_law_242 ?_
  refine lv_aload_n hx hb dL_law_243 rfl (lv_at hl 3 rfl) ?_
  refine lv_iload_n hx hb dL_law_244 rfl (lv_at hl 0 rfl) ?_
  refine lv_iconst (v := (2 : Int32)) hx hb dL_law_245 (by decide) ?_
  refine lv_iadd hx hb dL_law_246 ?_
  refine va_sld hx hb hX hbl hbA hS h2 dL_law_247 ?_
  refine px_callY (w2' := WM2) (va_runV (As := [.int (xs (Int32.toNatClampNeg (x3 + (1 : Int32)))), .int (xs (Int32.toNatClampNeg (x3 + (2 : Int32))))]) (rest := [.int r]) ⟨hx, hb, hml, hown, hts⟩ (k2 H.size) (cwV 2 hts gL_law_X11_tag rfl rfl rfl hvX11_tag ⟨Nat.le_of_ble_eq_true rfl, Nat.le_of_ble_eq_true rfl⟩) (px_preY (ci := 11) hK hN hP hD rfl hfm) rfl rfl hl.1 rfl (lv_room (Nat.le_of_ble_eq_true rfl)) dL_law_248 ⟨hC, hSl⟩) hP hD hS hA (fun H locs hP hD hS => ?_)
  refine W.eq (g2 := F0 m 251 ls [.int r, .int r]) rfl ?_
  refine lv_icmp_eq (tgt := 1413) hx hb dL_law_251 (by decide) (fun _ => ?_) (fun cc => absurd rfl cc)
  exact fin _ _ _ _ hI2 hP hD hS
set_option maxHeartbeats 4000000 in
set_option maxRecDepth 100000 in
theorem lwc_of {p : Program} {l : Launch} {e : Env} {s : State} {m : MethodId} {below : List Frame} {meth : Method} {c : Code} {Q : State → Prop} (dC : Nat → ClassId) (dI : Nat → Nat → Nat) (cyI cyZ cyJ cyB cyO : ClassId) (sK sV tS : Nat → Nat) (b L C S : Nat) (xs : Nat → Int32) (I : Nat → Nat → va_W → va_W → Prop) (hx : p.tables.exec = Jvm.exec) (hb : c.code = cL_law) (hml : c.maxLocals = 4) (hts : ∀ w ∈ wsL_law, w.before #[Value.ref b] s = true) (hown : s.vm.findClass RL = some m.cls) (hX : va_X b L xs s s.heap) (hbl : b < s.heap.size) (hK : va_K (dC, dI) vwCl (px_TY cyI cyZ cyJ cyB cyO) s) (hN : px_NW s) (hG : px_SG sK sV tS (fun q : Nat => s.heap.size ≤ q) s s.heap) (hC : C ≤ 600000) (hSl : S ≤ 7302250) (hrx : ∀ hx hm WX WM, I hx hm WX WM → ∃ fs, WX[0]? = some (hx, .inr (10, fs))) (hrm : ∀ hx hm WX WM, I hx hm WX WM → ∃ fs, WM[0]? = some (hm, .inr (11, fs))) (h_st : sm_of l sK sV tS dC dI cyI cyZ cyJ cyB cyO I) (zx zm : Nat) (WX WM : va_W) (hI : I zx zm WX WM) (x3 : Int32) (h0 : vp_in x3 L) (h1 : vp_in (x3 + 1) L) (h2 : vp_in (x3 + 2) L) (h3 : vp_in (x3 + 3) L) (h4 : vp_in (x3 + 4) L) (ls : Array Slot) (fin : ∀ (H : Heap) (locs : List Loc) (WX2 WM2 : va_W), I zx zm WX2 WM2 → va_P (dC, dI) vwCl (WX2 ++ WM2) H → va_D (fun q : Nat => s.heap.size ≤ q) (WX2 ++ WM2) → va_S (fun q : Nat => s.heap.size ≤ q) s.heap H locs → W p l e room_1 s m #[Value.ref b] below meth c H locs C S Q (F0 m 1413 ls [])) (H : Heap) (locs : List Loc) (hP : va_P (dC, dI) vwCl (WX ++ WM) H) (hD : va_D (fun q : Nat => s.heap.size ≤ q) (WX ++ WM)) (hS : va_S (fun q : Nat => s.heap.size ≤ q) s.heap H locs) (hl : lv_has ls 4 [(3, .int x3), (2, .ref zm), (1, .ref zx), (0, .ref b)]) : W p l e room_1 s m #[Value.ref b] below meth c H locs C S Q (F0 m 256 ls []) := by
  have hA : ∀ q : Nat, s.heap.size ≤ q → (fun q : Nat => s.heap.size ≤ q) q := fun _ h => h
  have hbA : ¬ (fun q : Nat => s.heap.size ≤ q) b := Nat.not_le.mpr hbl
  refine lv_aload_n hx hb dL_law_256 rfl (lv_at hl 2 rfl) ?_
  refine lv_aload_n hx hb dL_law_257 rfl (lv_at hl 3 rfl) ?_
  refine lv_iload_n hx hb dL_law_258 rfl (lv_at hl 0 rfl) ?_
  refine lv_iconst (v := (1 : Int32)) hx hb dL_law_259 (by decide) ?_
  refine lv_iadd hx hb dL_law_260 ?_
  refine va_sld hx hb hX hbl hbA hS h1 dL_law_261 ?_
  refine lv_aload_n hx hb dL_law_262 rfl (lv_at hl 3 rfl) ?_
  refine lv_iload_n hx hb dL_law_263 rfl (lv_at hl 0 rfl) ?_
  refine lv_iconst (v := (2 : Int32)) hx hb dL_law_264 (by decide) ?_
  refine lv_iadd hx hb dL_law_265 ?_
  refine va_sld hx hb hX hbl hbA hS h2 dL_law_266 ?_
  obtain ⟨r, WX2, WM2, k1, k2, hI2⟩ := h_st zx zm WX WM ((xs (Int32.toNatClampNeg (x3 + (1 : Int32))))) ((xs (Int32.toNatClampNeg (x3 + (2 : Int32))))) hI
  obtain ⟨fx, hfx⟩ := hrx _ _ _ _ hI
  obtain ⟨fm, hfm⟩ := hrm _ _ _ _ hI
  refine px_callL (w1' := WX2) (va_runV (As := [.int (xs (Int32.toNatClampNeg (x3 + (1 : Int32)))), .int (xs (Int32.toNatClampNeg (x3 + (2 : Int32))))]) (rest := []) ⟨hx, hb, hml, hown, hts⟩ (k1 H.size) (cwV 2 hts gL_law_X10_of rfl rfl rfl hvX10_of ⟨Nat.le_of_ble_eq_true rfl, Nat.le_of_ble_eq_true rfl⟩) (px_preL (ci := 10) hK hN hP hD rfl hfx) rfl rfl hl.1 rfl (lv_room (Nat.le_of_ble_eq_true rfl)) dL_law_267 ⟨hC, hSl⟩) hP hD hS hA (fun H locs hP hD hS => ?_)
  refine W.eq (g2 := F0 m 270 ls [.int r]) rfl ?_
  refine lv_aload_n hx hb dL_law_270 rfl (lv_at hl 1 rfl) ?_
  refine lv_aload_n hx hb dL_law_271 rfl (lv_at hl 3 rfl) ?_
  refine lv_iload_n hx hb dL_law_272 rfl (lv_at hl 0 rfl) ?_
  refine lv_iconst (v := (1 : Int32)) hx hb dL_law_273 (by decide) ?_
  refine lv_iadd hx hb dL_law_274 ?_
  refine va_sld hx hb hX hbl hbA hS h1 dL_law_275 ?_
  refine lv_aload_n hx hb dL_law_276 rfl (lv_at hl 3 rfl) ?_
  refine lv_iload_n hx hb dL_law_277 rfl (lv_at hl 0 rfl) ?_
  refine lv_iconst (v := (2 : Int32)) hx hb dL_law_278 (by decide) ?_
  refine lv_iadd hx hb dL_law_279 ?_
  refine va_sld hx hb hX hbl hbA hS h2 dL_law_280 ?_
  refine px_callY (w2' := WM2) (va_runV (As := [.int (xs (Int32.toNatClampNeg (x3 + (1 : Int32)))), .int (xs (Int32.toNatClampNeg (x3 + (2 : Int32))))]) (rest := [.int r]) ⟨hx, hb, hml, hown, hts⟩ (k2 H.size) (cwV 2 hts gL_law_X11_of rfl rfl rfl hvX11_of ⟨Nat.le_of_ble_eq_true rfl, Nat.le_of_ble_eq_true rfl⟩) (px_preY (ci := 11) hK hN hP hD rfl hfm) rfl rfl hl.1 rfl (lv_room (Nat.le_of_ble_eq_true rfl)) dL_law_281 ⟨hC, hSl⟩) hP hD hS hA (fun H locs hP hD hS => ?_)
  refine W.eq (g2 := F0 m 284 ls [.int r, .int r]) rfl ?_
  refine lv_icmp_eq (tgt := 1413) hx hb dL_law_284 (by decide) (fun _ => ?_) (fun cc => absurd rfl cc)
  exact fin _ _ _ _ hI2 hP hD hS
set_option maxHeartbeats 4000000 in
set_option maxRecDepth 100000 in
theorem lwc_hush {p : Program} {l : Launch} {e : Env} {s : State} {m : MethodId} {below : List Frame} {meth : Method} {c : Code} {Q : State → Prop} (dC : Nat → ClassId) (dI : Nat → Nat → Nat) (cyI cyZ cyJ cyB cyO : ClassId) (sK sV tS : Nat → Nat) (b L C S : Nat) (xs : Nat → Int32) (I : Nat → Nat → va_W → va_W → Prop) (hx : p.tables.exec = Jvm.exec) (hb : c.code = cL_law) (hml : c.maxLocals = 4) (hts : ∀ w ∈ wsL_law, w.before #[Value.ref b] s = true) (hown : s.vm.findClass RL = some m.cls) (hX : va_X b L xs s s.heap) (hbl : b < s.heap.size) (hK : va_K (dC, dI) vwCl (px_TY cyI cyZ cyJ cyB cyO) s) (hN : px_NW s) (hG : px_SG sK sV tS (fun q : Nat => s.heap.size ≤ q) s s.heap) (hC : C ≤ 600000) (hSl : S ≤ 7302250) (hrx : ∀ hx hm WX WM, I hx hm WX WM → ∃ fs, WX[0]? = some (hx, .inr (10, fs))) (hrm : ∀ hx hm WX WM, I hx hm WX WM → ∃ fs, WM[0]? = some (hm, .inr (11, fs))) (h_st : sm_hush l sK sV tS dC dI cyI cyZ cyJ cyB cyO I) (zx zm : Nat) (WX WM : va_W) (hI : I zx zm WX WM) (x3 : Int32) (h0 : vp_in x3 L) (h1 : vp_in (x3 + 1) L) (h2 : vp_in (x3 + 2) L) (h3 : vp_in (x3 + 3) L) (h4 : vp_in (x3 + 4) L) (ls : Array Slot) (fin : ∀ (H : Heap) (locs : List Loc) (WX2 WM2 : va_W), I zx zm WX2 WM2 → va_P (dC, dI) vwCl (WX2 ++ WM2) H → va_D (fun q : Nat => s.heap.size ≤ q) (WX2 ++ WM2) → va_S (fun q : Nat => s.heap.size ≤ q) s.heap H locs → W p l e room_1 s m #[Value.ref b] below meth c H locs C S Q (F0 m 1413 ls [])) (H : Heap) (locs : List Loc) (hP : va_P (dC, dI) vwCl (WX ++ WM) H) (hD : va_D (fun q : Nat => s.heap.size ≤ q) (WX ++ WM)) (hS : va_S (fun q : Nat => s.heap.size ≤ q) s.heap H locs) (hl : lv_has ls 4 [(3, .int x3), (2, .ref zm), (1, .ref zx), (0, .ref b)]) : W p l e room_1 s m #[Value.ref b] below meth c H locs C S Q (F0 m 289 ls []) := by
  have hA : ∀ q : Nat, s.heap.size ≤ q → (fun q : Nat => s.heap.size ≤ q) q := fun _ h => h
  have hbA : ¬ (fun q : Nat => s.heap.size ≤ q) b := Nat.not_le.mpr hbl
  refine lv_aload_n hx hb dL_law_289 rfl (lv_at hl 2 rfl) ?_
  refine lv_aload_n hx hb dL_law_290 rfl (lv_at hl 3 rfl) ?_
  refine lv_iload_n hx hb dL_law_291 rfl (lv_at hl 0 rfl) ?_
  refine lv_iconst (v := (1 : Int32)) hx hb dL_law_292 (by decide) ?_
  refine lv_iadd hx hb dL_law_293 ?_
  refine va_sld hx hb hX hbl hbA hS h1 dL_law_294 ?_
  refine lv_aload_n hx hb dL_law_295 rfl (lv_at hl 3 rfl) ?_
  refine lv_iload_n hx hb dL_law_296 rfl (lv_at hl 0 rfl) ?_
  refine lv_iconst (v := (2 : Int32)) hx hb dL_law_297 (by decide) ?_
  refine lv_iadd hx hb dL_law_298 ?_
  refine va_sld hx hb hX hbl hbA hS h2 dL_law_299 ?_
  refine lv_if_eq (tgt := 307) hx hb dL_law_300 (by decide) (fun cz => ?_) (fun cz => ?_)
  · refine lv_iconst (v := (0 : Int32)) hx hb dL_law_307 (by decide) ?_
    obtain ⟨r, WX2, WM2, k1, k2, hI2⟩ := h_st zx zm WX WM ((xs (Int32.toNatClampNeg (x3 + (1 : Int32))))) ((0 : Int32)) (by decide) hI
    obtain ⟨fx, hfx⟩ := hrx _ _ _ _ hI
    obtain ⟨fm, hfm⟩ := hrm _ _ _ _ hI
    refine px_callL (w1' := WX2) (va_runV (As := [.int (xs (Int32.toNatClampNeg (x3 + (1 : Int32)))), .int (0 : Int32)]) (rest := []) ⟨hx, hb, hml, hown, hts⟩ (k1 H.size) (cwV 2 hts gL_law_X10_hush rfl rfl rfl hvX10_hush ⟨Nat.le_of_ble_eq_true rfl, Nat.le_of_ble_eq_true rfl⟩) (px_preL (ci := 10) hK hN hP hD rfl hfx) rfl rfl hl.1 rfl (lv_room (Nat.le_of_ble_eq_true rfl)) dL_law_308 ⟨hC, hSl⟩) hP hD hS hA (fun H locs hP hD hS => ?_)
    refine W.eq (g2 := F0 m 311 ls [.int r]) rfl ?_
    refine lv_aload_n hx hb dL_law_311 rfl (lv_at hl 1 rfl) ?_
    refine lv_aload_n hx hb dL_law_312 rfl (lv_at hl 3 rfl) ?_
    refine lv_iload_n hx hb dL_law_313 rfl (lv_at hl 0 rfl) ?_
    refine lv_iconst (v := (1 : Int32)) hx hb dL_law_314 (by decide) ?_
    refine lv_iadd hx hb dL_law_315 ?_
    refine va_sld hx hb hX hbl hbA hS h1 dL_law_316 ?_
    refine lv_aload_n hx hb dL_law_317 rfl (lv_at hl 3 rfl) ?_
    refine lv_iload_n hx hb dL_law_318 rfl (lv_at hl 0 rfl) ?_
    refine lv_iconst (v := (2 : Int32)) hx hb dL_law_319 (by decide) ?_
    refine lv_iadd hx hb dL_law_320 ?_
    refine va_sld hx hb hX hbl hbA hS h2 dL_law_321 ?_
    refine lv_if_eq (tgt := 329) hx hb dL_law_322 (by decide) (fun _ => ?_) (fun cc => absurd cz cc)
    refine lv_iconst (v := (0 : Int32)) hx hb dL_law_329 (by decide) ?_
    refine px_callY (w2' := WM2) (va_runV (As := [.int (xs (Int32.toNatClampNeg (x3 + (1 : Int32)))), .int (0 : Int32)]) (rest := [.int r]) ⟨hx, hb, hml, hown, hts⟩ (k2 H.size) (cwV 2 hts gL_law_X11_hush rfl rfl rfl hvX11_hush ⟨Nat.le_of_ble_eq_true rfl, Nat.le_of_ble_eq_true rfl⟩) (px_preY (ci := 11) hK hN hP hD rfl hfm) rfl rfl hl.1 rfl (lv_room (Nat.le_of_ble_eq_true rfl)) dL_law_330 ⟨hC, hSl⟩) hP hD hS hA (fun H locs hP hD hS => ?_)
    refine W.eq (g2 := F0 m 333 ls [.int r, .int r]) rfl ?_
    refine lv_icmp_eq (tgt := 1413) hx hb dL_law_333 (by decide) (fun _ => ?_) (fun cc => absurd rfl cc)
    exact fin _ _ _ _ hI2 hP hD hS
  · refine lv_iconst (v := (1 : Int32)) hx hb dL_law_303 (by decide) ?_
    refine lv_goto (tgt := 308) hx hb dL_law_304 (by decide) ?_
    obtain ⟨r, WX2, WM2, k1, k2, hI2⟩ := h_st zx zm WX WM ((xs (Int32.toNatClampNeg (x3 + (1 : Int32))))) ((1 : Int32)) (by decide) hI
    obtain ⟨fx, hfx⟩ := hrx _ _ _ _ hI
    obtain ⟨fm, hfm⟩ := hrm _ _ _ _ hI
    refine px_callL (w1' := WX2) (va_runV (As := [.int (xs (Int32.toNatClampNeg (x3 + (1 : Int32)))), .int (1 : Int32)]) (rest := []) ⟨hx, hb, hml, hown, hts⟩ (k1 H.size) (cwV 2 hts gL_law_X10_hush rfl rfl rfl hvX10_hush ⟨Nat.le_of_ble_eq_true rfl, Nat.le_of_ble_eq_true rfl⟩) (px_preL (ci := 10) hK hN hP hD rfl hfx) rfl rfl hl.1 rfl (lv_room (Nat.le_of_ble_eq_true rfl)) dL_law_308 ⟨hC, hSl⟩) hP hD hS hA (fun H locs hP hD hS => ?_)
    refine W.eq (g2 := F0 m 311 ls [.int r]) rfl ?_
    refine lv_aload_n hx hb dL_law_311 rfl (lv_at hl 1 rfl) ?_
    refine lv_aload_n hx hb dL_law_312 rfl (lv_at hl 3 rfl) ?_
    refine lv_iload_n hx hb dL_law_313 rfl (lv_at hl 0 rfl) ?_
    refine lv_iconst (v := (1 : Int32)) hx hb dL_law_314 (by decide) ?_
    refine lv_iadd hx hb dL_law_315 ?_
    refine va_sld hx hb hX hbl hbA hS h1 dL_law_316 ?_
    refine lv_aload_n hx hb dL_law_317 rfl (lv_at hl 3 rfl) ?_
    refine lv_iload_n hx hb dL_law_318 rfl (lv_at hl 0 rfl) ?_
    refine lv_iconst (v := (2 : Int32)) hx hb dL_law_319 (by decide) ?_
    refine lv_iadd hx hb dL_law_320 ?_
    refine va_sld hx hb hX hbl hbA hS h2 dL_law_321 ?_
    refine lv_if_eq (tgt := 329) hx hb dL_law_322 (by decide) (fun cc => absurd cc cz) (fun _ => ?_)
    refine lv_iconst (v := (1 : Int32)) hx hb dL_law_325 (by decide) ?_
    refine lv_goto (tgt := 330) hx hb dL_law_326 (by decide) ?_
    refine px_callY (w2' := WM2) (va_runV (As := [.int (xs (Int32.toNatClampNeg (x3 + (1 : Int32)))), .int (1 : Int32)]) (rest := [.int r]) ⟨hx, hb, hml, hown, hts⟩ (k2 H.size) (cwV 2 hts gL_law_X11_hush rfl rfl rfl hvX11_hush ⟨Nat.le_of_ble_eq_true rfl, Nat.le_of_ble_eq_true rfl⟩) (px_preY (ci := 11) hK hN hP hD rfl hfm) rfl rfl hl.1 rfl (lv_room (Nat.le_of_ble_eq_true rfl)) dL_law_330 ⟨hC, hSl⟩) hP hD hS hA (fun H locs hP hD hS => ?_)
    refine W.eq (g2 := F0 m 333 ls [.int r, .int r]) rfl ?_
    refine lv_icmp_eq (tgt := 1413) hx hb dL_law_333 (by decide) (fun _ => ?_) (fun cc => absurd rfl cc)
    exact fin _ _ _ _ hI2 hP hD hS
set_option maxHeartbeats 4000000 in
set_option maxRecDepth 100000 in
theorem lwc_wake {p : Program} {l : Launch} {e : Env} {s : State} {m : MethodId} {below : List Frame} {meth : Method} {c : Code} {Q : State → Prop} (dC : Nat → ClassId) (dI : Nat → Nat → Nat) (cyI cyZ cyJ cyB cyO : ClassId) (sK sV tS : Nat → Nat) (b L C S : Nat) (xs : Nat → Int32) (I : Nat → Nat → va_W → va_W → Prop) (hx : p.tables.exec = Jvm.exec) (hb : c.code = cL_law) (hml : c.maxLocals = 4) (hts : ∀ w ∈ wsL_law, w.before #[Value.ref b] s = true) (hown : s.vm.findClass RL = some m.cls) (hX : va_X b L xs s s.heap) (hbl : b < s.heap.size) (hK : va_K (dC, dI) vwCl (px_TY cyI cyZ cyJ cyB cyO) s) (hN : px_NW s) (hG : px_SG sK sV tS (fun q : Nat => s.heap.size ≤ q) s s.heap) (hC : C ≤ 600000) (hSl : S ≤ 7302250) (hrx : ∀ hx hm WX WM, I hx hm WX WM → ∃ fs, WX[0]? = some (hx, .inr (10, fs))) (hrm : ∀ hx hm WX WM, I hx hm WX WM → ∃ fs, WM[0]? = some (hm, .inr (11, fs))) (h_st : sm_wake l sK sV tS dC dI cyI cyZ cyJ cyB cyO I) (zx zm : Nat) (WX WM : va_W) (hI : I zx zm WX WM) (x3 : Int32) (h0 : vp_in x3 L) (h1 : vp_in (x3 + 1) L) (h2 : vp_in (x3 + 2) L) (h3 : vp_in (x3 + 3) L) (h4 : vp_in (x3 + 4) L) (ls : Array Slot) (fin : ∀ (H : Heap) (locs : List Loc) (WX2 WM2 : va_W), I zx zm WX2 WM2 → va_P (dC, dI) vwCl (WX2 ++ WM2) H → va_D (fun q : Nat => s.heap.size ≤ q) (WX2 ++ WM2) → va_S (fun q : Nat => s.heap.size ≤ q) s.heap H locs → W p l e room_1 s m #[Value.ref b] below meth c H locs C S Q (F0 m 1413 ls [])) (H : Heap) (locs : List Loc) (hP : va_P (dC, dI) vwCl (WX ++ WM) H) (hD : va_D (fun q : Nat => s.heap.size ≤ q) (WX ++ WM)) (hS : va_S (fun q : Nat => s.heap.size ≤ q) s.heap H locs) (hl : lv_has ls 4 [(3, .int x3), (2, .ref zm), (1, .ref zx), (0, .ref b)]) : W p l e room_1 s m #[Value.ref b] below meth c H locs C S Q (F0 m 338 ls []) := by
  have hA : ∀ q : Nat, s.heap.size ≤ q → (fun q : Nat => s.heap.size ≤ q) q := fun _ h => h
  have hbA : ¬ (fun q : Nat => s.heap.size ≤ q) b := Nat.not_le.mpr hbl
  refine lv_aload_n hx hb dL_law_338 rfl (lv_at hl 2 rfl) ?_
  obtain ⟨r, WX2, WM2, k1, k2, hI2⟩ := h_st zx zm WX WM hI
  obtain ⟨fx, hfx⟩ := hrx _ _ _ _ hI
  obtain ⟨fm, hfm⟩ := hrm _ _ _ _ hI
  refine px_callL (w1' := WX2) (va_runV (As := []) (rest := []) ⟨hx, hb, hml, hown, hts⟩ (k1 H.size) (cwV 0 hts gL_law_X10_wake rfl rfl rfl hvX10_wake ⟨Nat.le_of_ble_eq_true rfl, Nat.le_of_ble_eq_true rfl⟩) (px_preL (ci := 10) hK hN hP hD rfl hfx) rfl rfl hl.1 rfl (lv_room (Nat.le_of_ble_eq_true rfl)) dL_law_339 ⟨hC, hSl⟩) hP hD hS hA (fun H locs hP hD hS => ?_)
  refine W.eq (g2 := F0 m 342 ls [.int r]) rfl ?_
  refine lv_aload_n hx hb dL_law_342 rfl (lv_at hl 1 rfl) ?_
  refine px_callY (w2' := WM2) (va_runV (As := []) (rest := [.int r]) ⟨hx, hb, hml, hown, hts⟩ (k2 H.size) (cwV 0 hts gL_law_X11_wake rfl rfl rfl hvX11_wake ⟨Nat.le_of_ble_eq_true rfl, Nat.le_of_ble_eq_true rfl⟩) (px_preY (ci := 11) hK hN hP hD rfl hfm) rfl rfl hl.1 rfl (lv_room (Nat.le_of_ble_eq_true rfl)) dL_law_343 ⟨hC, hSl⟩) hP hD hS hA (fun H locs hP hD hS => ?_)
  refine W.eq (g2 := F0 m 346 ls [.int r, .int r]) rfl ?_
  refine lv_icmp_eq (tgt := 1413) hx hb dL_law_346 (by decide) (fun _ => ?_) (fun cc => absurd rfl cc)
  exact fin _ _ _ _ hI2 hP hD hS
set_option maxHeartbeats 4000000 in
set_option maxRecDepth 100000 in
theorem lwc_block {p : Program} {l : Launch} {e : Env} {s : State} {m : MethodId} {below : List Frame} {meth : Method} {c : Code} {Q : State → Prop} (dC : Nat → ClassId) (dI : Nat → Nat → Nat) (cyI cyZ cyJ cyB cyO : ClassId) (sK sV tS : Nat → Nat) (b L C S : Nat) (xs : Nat → Int32) (I : Nat → Nat → va_W → va_W → Prop) (hx : p.tables.exec = Jvm.exec) (hb : c.code = cL_law) (hml : c.maxLocals = 4) (hts : ∀ w ∈ wsL_law, w.before #[Value.ref b] s = true) (hown : s.vm.findClass RL = some m.cls) (hX : va_X b L xs s s.heap) (hbl : b < s.heap.size) (hK : va_K (dC, dI) vwCl (px_TY cyI cyZ cyJ cyB cyO) s) (hN : px_NW s) (hG : px_SG sK sV tS (fun q : Nat => s.heap.size ≤ q) s s.heap) (hC : C ≤ 600000) (hSl : S ≤ 7302250) (hrx : ∀ hx hm WX WM, I hx hm WX WM → ∃ fs, WX[0]? = some (hx, .inr (10, fs))) (hrm : ∀ hx hm WX WM, I hx hm WX WM → ∃ fs, WM[0]? = some (hm, .inr (11, fs))) (h_st : sm_block l sK sV tS dC dI cyI cyZ cyJ cyB cyO I) (zx zm : Nat) (WX WM : va_W) (hI : I zx zm WX WM) (x3 : Int32) (h0 : vp_in x3 L) (h1 : vp_in (x3 + 1) L) (h2 : vp_in (x3 + 2) L) (h3 : vp_in (x3 + 3) L) (h4 : vp_in (x3 + 4) L) (ls : Array Slot) (fin : ∀ (H : Heap) (locs : List Loc) (WX2 WM2 : va_W), I zx zm WX2 WM2 → va_P (dC, dI) vwCl (WX2 ++ WM2) H → va_D (fun q : Nat => s.heap.size ≤ q) (WX2 ++ WM2) → va_S (fun q : Nat => s.heap.size ≤ q) s.heap H locs → W p l e room_1 s m #[Value.ref b] below meth c H locs C S Q (F0 m 1413 ls [])) (H : Heap) (locs : List Loc) (hP : va_P (dC, dI) vwCl (WX ++ WM) H) (hD : va_D (fun q : Nat => s.heap.size ≤ q) (WX ++ WM)) (hS : va_S (fun q : Nat => s.heap.size ≤ q) s.heap H locs) (hl : lv_has ls 4 [(3, .int x3), (2, .ref zm), (1, .ref zx), (0, .ref b)]) : W p l e room_1 s m #[Value.ref b] below meth c H locs C S Q (F0 m 351 ls []) := by
  have hA : ∀ q : Nat, s.heap.size ≤ q → (fun q : Nat => s.heap.size ≤ q) q := fun _ h => h
  have hbA : ¬ (fun q : Nat => s.heap.size ≤ q) b := Nat.not_le.mpr hbl
  refine lv_aload_n hx hb dL_law_351 rfl (lv_at hl 2 rfl) ?_
  refine lv_aload_n hx hb dL_law_352 rfl (lv_at hl 3 rfl) ?_
  refine lv_iload_n hx hb dL_law_353 rfl (lv_at hl 0 rfl) ?_
  refine lv_iconst (v := (1 : Int32)) hx hb dL_law_354 (by decide) ?_
  refine lv_iadd hx hb dL_law_355 ?_
  refine va_sld hx hb hX hbl hbA hS h1 dL_law_356 ?_
  refine lv_aload_n hx hb dL_law_357 rfl (lv_at hl 3 rfl) ?_
  refine lv_iload_n hx hb dL_law_358 rfl (lv_at hl 0 rfl) ?_
  refine lv_iconst (v := (2 : Int32)) hx hb dL_law_359 (by decide) ?_
  refine lv_iadd hx hb dL_law_360 ?_
  refine va_sld hx hb hX hbl hbA hS h2 dL_law_361 ?_
  obtain ⟨r, WX2, WM2, k1, k2, hI2⟩ := h_st zx zm WX WM ((xs (Int32.toNatClampNeg (x3 + (1 : Int32))))) ((xs (Int32.toNatClampNeg (x3 + (2 : Int32))))) hI
  obtain ⟨fx, hfx⟩ := hrx _ _ _ _ hI
  obtain ⟨fm, hfm⟩ := hrm _ _ _ _ hI
  refine px_callL (w1' := WX2) (va_runV (As := [.int (xs (Int32.toNatClampNeg (x3 + (1 : Int32)))), .int (xs (Int32.toNatClampNeg (x3 + (2 : Int32))))]) (rest := []) ⟨hx, hb, hml, hown, hts⟩ (k1 H.size) (cwV 2 hts gL_law_X10_block rfl rfl rfl hvX10_block ⟨Nat.le_of_ble_eq_true rfl, Nat.le_of_ble_eq_true rfl⟩) (px_preL (ci := 10) hK hN hP hD rfl hfx) rfl rfl hl.1 rfl (lv_room (Nat.le_of_ble_eq_true rfl)) dL_law_362 ⟨hC, hSl⟩) hP hD hS hA (fun H locs hP hD hS => ?_)
  refine W.eq (g2 := F0 m 365 ls [.int r]) rfl ?_
  refine lv_aload_n hx hb dL_law_365 rfl (lv_at hl 1 rfl) ?_
  refine lv_aload_n hx hb dL_law_366 rfl (lv_at hl 3 rfl) ?_
  refine lv_iload_n hx hb dL_law_367 rfl (lv_at hl 0 rfl) ?_
  refine lv_iconst (v := (1 : Int32)) hx hb dL_law_368 (by decide) ?_
  refine lv_iadd hx hb dL_law_369 ?_
  refine va_sld hx hb hX hbl hbA hS h1 dL_law_370 ?_
  refine lv_aload_n hx hb dL_law_371 rfl (lv_at hl 3 rfl) ?_
  refine lv_iload_n hx hb dL_law_372 rfl (lv_at hl 0 rfl) ?_
  refine lv_iconst (v := (2 : Int32)) hx hb dL_law_373 (by decide) ?_
  refine lv_iadd hx hb dL_law_374 ?_
  refine va_sld hx hb hX hbl hbA hS h2 dL_law_375 ?_
  refine px_callY (w2' := WM2) (va_runV (As := [.int (xs (Int32.toNatClampNeg (x3 + (1 : Int32)))), .int (xs (Int32.toNatClampNeg (x3 + (2 : Int32))))]) (rest := [.int r]) ⟨hx, hb, hml, hown, hts⟩ (k2 H.size) (cwV 2 hts gL_law_X11_block rfl rfl rfl hvX11_block ⟨Nat.le_of_ble_eq_true rfl, Nat.le_of_ble_eq_true rfl⟩) (px_preY (ci := 11) hK hN hP hD rfl hfm) rfl rfl hl.1 rfl (lv_room (Nat.le_of_ble_eq_true rfl)) dL_law_376 ⟨hC, hSl⟩) hP hD hS hA (fun H locs hP hD hS => ?_)
  refine W.eq (g2 := F0 m 379 ls [.int r, .int r]) rfl ?_
  refine lv_icmp_eq (tgt := 1413) hx hb dL_law_379 (by decide) (fun _ => ?_) (fun cc => absurd rfl cc)
  exact fin _ _ _ _ hI2 hP hD hS
set_option maxHeartbeats 4000000 in
set_option maxRecDepth 100000 in
theorem lwc_ask {p : Program} {l : Launch} {e : Env} {s : State} {m : MethodId} {below : List Frame} {meth : Method} {c : Code} {Q : State → Prop} (dC : Nat → ClassId) (dI : Nat → Nat → Nat) (cyI cyZ cyJ cyB cyO : ClassId) (sK sV tS : Nat → Nat) (b L C S : Nat) (xs : Nat → Int32) (I : Nat → Nat → va_W → va_W → Prop) (hx : p.tables.exec = Jvm.exec) (hb : c.code = cL_law) (hml : c.maxLocals = 4) (hts : ∀ w ∈ wsL_law, w.before #[Value.ref b] s = true) (hown : s.vm.findClass RL = some m.cls) (hX : va_X b L xs s s.heap) (hbl : b < s.heap.size) (hK : va_K (dC, dI) vwCl (px_TY cyI cyZ cyJ cyB cyO) s) (hN : px_NW s) (hG : px_SG sK sV tS (fun q : Nat => s.heap.size ≤ q) s s.heap) (hC : C ≤ 600000) (hSl : S ≤ 7302250) (hrx : ∀ hx hm WX WM, I hx hm WX WM → ∃ fs, WX[0]? = some (hx, .inr (10, fs))) (hrm : ∀ hx hm WX WM, I hx hm WX WM → ∃ fs, WM[0]? = some (hm, .inr (11, fs))) (h_st : sm_ask l sK sV tS dC dI cyI cyZ cyJ cyB cyO I) (zx zm : Nat) (WX WM : va_W) (hI : I zx zm WX WM) (x3 : Int32) (h0 : vp_in x3 L) (h1 : vp_in (x3 + 1) L) (h2 : vp_in (x3 + 2) L) (h3 : vp_in (x3 + 3) L) (h4 : vp_in (x3 + 4) L) (ls : Array Slot) (fin : ∀ (H : Heap) (locs : List Loc) (WX2 WM2 : va_W), I zx zm WX2 WM2 → va_P (dC, dI) vwCl (WX2 ++ WM2) H → va_D (fun q : Nat => s.heap.size ≤ q) (WX2 ++ WM2) → va_S (fun q : Nat => s.heap.size ≤ q) s.heap H locs → W p l e room_1 s m #[Value.ref b] below meth c H locs C S Q (F0 m 1413 ls [])) (H : Heap) (locs : List Loc) (hP : va_P (dC, dI) vwCl (WX ++ WM) H) (hD : va_D (fun q : Nat => s.heap.size ≤ q) (WX ++ WM)) (hS : va_S (fun q : Nat => s.heap.size ≤ q) s.heap H locs) (hl : lv_has ls 4 [(3, .int x3), (2, .ref zm), (1, .ref zx), (0, .ref b)]) : W p l e room_1 s m #[Value.ref b] below meth c H locs C S Q (F0 m 384 ls []) := by
  have hA : ∀ q : Nat, s.heap.size ≤ q → (fun q : Nat => s.heap.size ≤ q) q := fun _ h => h
  have hbA : ¬ (fun q : Nat => s.heap.size ≤ q) b := Nat.not_le.mpr hbl
  refine lv_aload_n hx hb dL_law_384 rfl (lv_at hl 2 rfl) ?_
  refine lv_aload_n hx hb dL_law_385 rfl (lv_at hl 3 rfl) ?_
  refine lv_iload_n hx hb dL_law_386 rfl (lv_at hl 0 rfl) ?_
  refine lv_iconst (v := (1 : Int32)) hx hb dL_law_387 (by decide) ?_
  refine lv_iadd hx hb dL_law_388 ?_
  refine va_sld hx hb hX hbl hbA hS h1 dL_law_389 ?_
  refine lv_aload_n hx hb dL_law_390 rfl (lv_at hl 3 rfl) ?_
  refine lv_iload_n hx hb dL_law_391 rfl (lv_at hl 0 rfl) ?_
  refine lv_iconst (v := (2 : Int32)) hx hb dL_law_392 (by decide) ?_
  refine lv_iadd hx hb dL_law_393 ?_
  refine va_sld hx hb hX hbl hbA hS h2 dL_law_394 ?_
  refine lv_aload_n hx hb dL_law_395 rfl (lv_at hl 3 rfl) ?_
  refine lv_iload_n hx hb dL_law_396 rfl (lv_at hl 0 rfl) ?_
  refine lv_iconst (v := (3 : Int32)) hx hb dL_law_397 (by decide) ?_
  refine lv_iadd hx hb dL_law_398 ?_
  refine va_sld hx hb hX hbl hbA hS h3 dL_law_399 ?_
  obtain ⟨r, WX2, WM2, k1, k2, hI2⟩ := h_st zx zm WX WM ((xs (Int32.toNatClampNeg (x3 + (1 : Int32))))) ((xs (Int32.toNatClampNeg (x3 + (2 : Int32))))) ((xs (Int32.toNatClampNeg (x3 + (3 : Int32))))) hI
  obtain ⟨fx, hfx⟩ := hrx _ _ _ _ hI
  obtain ⟨fm, hfm⟩ := hrm _ _ _ _ hI
  refine px_callL (w1' := WX2) (va_runV (As := [.int (xs (Int32.toNatClampNeg (x3 + (1 : Int32)))), .int (xs (Int32.toNatClampNeg (x3 + (2 : Int32)))), .int (xs (Int32.toNatClampNeg (x3 + (3 : Int32))))]) (rest := []) ⟨hx, hb, hml, hown, hts⟩ (k1 H.size) (cwV 3 hts gL_law_X10_ask rfl rfl rfl hvX10_ask ⟨Nat.le_of_ble_eq_true rfl, Nat.le_of_ble_eq_true rfl⟩) (px_preL (ci := 10) hK hN hP hD rfl hfx) rfl rfl hl.1 rfl (lv_room (Nat.le_of_ble_eq_true rfl)) dL_law_400 ⟨hC, hSl⟩) hP hD hS hA (fun H locs hP hD hS => ?_)
  refine W.eq (g2 := F0 m 403 ls [.int r]) rfl ?_
  refine lv_aload_n hx hb dL_law_403 rfl (lv_at hl 1 rfl) ?_
  refine lv_aload_n hx hb dL_law_404 rfl (lv_at hl 3 rfl) ?_
  refine lv_iload_n hx hb dL_law_405 rfl (lv_at hl 0 rfl) ?_
  refine lv_iconst (v := (1 : Int32)) hx hb dL_law_406 (by decide) ?_
  refine lv_iadd hx hb dL_law_407 ?_
  refine va_sld hx hb hX hbl hbA hS h1 dL_law_408 ?_
  refine lv_aload_n hx hb dL_law_409 rfl (lv_at hl 3 rfl) ?_
  refine lv_iload_n hx hb dL_law_410 rfl (lv_at hl 0 rfl) ?_
  refine lv_iconst (v := (2 : Int32)) hx hb dL_law_411 (by decide) ?_
  refine lv_iadd hx hb dL_law_412 ?_
  refine va_sld hx hb hX hbl hbA hS h2 dL_law_413 ?_
  refine lv_aload_n hx hb dL_law_414 rfl (lv_at hl 3 rfl) ?_
  refine lv_iload_n hx hb dL_law_415 rfl (lv_at hl 0 rfl) ?_
  refine lv_iconst (v := (3 : Int32)) hx hb dL_law_416 (by decide) ?_
  refine lv_iadd hx hb dL_law_417 ?_
  refine va_sld hx hb hX hbl hbA hS h3 dL_law_418 ?_
  refine px_callY (w2' := WM2) (va_runV (As := [.int (xs (Int32.toNatClampNeg (x3 + (1 : Int32)))), .int (xs (Int32.toNatClampNeg (x3 + (2 : Int32)))), .int (xs (Int32.toNatClampNeg (x3 + (3 : Int32))))]) (rest := [.int r]) ⟨hx, hb, hml, hown, hts⟩ (k2 H.size) (cwV 3 hts gL_law_X11_ask rfl rfl rfl hvX11_ask ⟨Nat.le_of_ble_eq_true rfl, Nat.le_of_ble_eq_true rfl⟩) (px_preY (ci := 11) hK hN hP hD rfl hfm) rfl rfl hl.1 rfl (lv_room (Nat.le_of_ble_eq_true rfl)) dL_law_419 ⟨hC, hSl⟩) hP hD hS hA (fun H locs hP hD hS => ?_)
  refine W.eq (g2 := F0 m 422 ls [.int r, .int r]) rfl ?_
  refine lv_icmp_eq (tgt := 1413) hx hb dL_law_422 (by decide) (fun _ => ?_) (fun cc => absurd rfl cc)
  exact fin _ _ _ _ hI2 hP hD hS
set_option maxHeartbeats 4000000 in
set_option maxRecDepth 100000 in
theorem lwc_tree {p : Program} {l : Launch} {e : Env} {s : State} {m : MethodId} {below : List Frame} {meth : Method} {c : Code} {Q : State → Prop} (dC : Nat → ClassId) (dI : Nat → Nat → Nat) (cyI cyZ cyJ cyB cyO : ClassId) (sK sV tS : Nat → Nat) (b L C S : Nat) (xs : Nat → Int32) (I : Nat → Nat → va_W → va_W → Prop) (hx : p.tables.exec = Jvm.exec) (hb : c.code = cL_law) (hml : c.maxLocals = 4) (hts : ∀ w ∈ wsL_law, w.before #[Value.ref b] s = true) (hown : s.vm.findClass RL = some m.cls) (hX : va_X b L xs s s.heap) (hbl : b < s.heap.size) (hK : va_K (dC, dI) vwCl (px_TY cyI cyZ cyJ cyB cyO) s) (hN : px_NW s) (hG : px_SG sK sV tS (fun q : Nat => s.heap.size ≤ q) s s.heap) (hC : C ≤ 600000) (hSl : S ≤ 7302250) (hrx : ∀ hx hm WX WM, I hx hm WX WM → ∃ fs, WX[0]? = some (hx, .inr (10, fs))) (hrm : ∀ hx hm WX WM, I hx hm WX WM → ∃ fs, WM[0]? = some (hm, .inr (11, fs))) (h_st : sm_tree l sK sV tS dC dI cyI cyZ cyJ cyB cyO I) (zx zm : Nat) (WX WM : va_W) (hI : I zx zm WX WM) (x3 : Int32) (h0 : vp_in x3 L) (h1 : vp_in (x3 + 1) L) (h2 : vp_in (x3 + 2) L) (h3 : vp_in (x3 + 3) L) (h4 : vp_in (x3 + 4) L) (ls : Array Slot) (fin : ∀ (H : Heap) (locs : List Loc) (WX2 WM2 : va_W), I zx zm WX2 WM2 → va_P (dC, dI) vwCl (WX2 ++ WM2) H → va_D (fun q : Nat => s.heap.size ≤ q) (WX2 ++ WM2) → va_S (fun q : Nat => s.heap.size ≤ q) s.heap H locs → W p l e room_1 s m #[Value.ref b] below meth c H locs C S Q (F0 m 1413 ls [])) (H : Heap) (locs : List Loc) (hP : va_P (dC, dI) vwCl (WX ++ WM) H) (hD : va_D (fun q : Nat => s.heap.size ≤ q) (WX ++ WM)) (hS : va_S (fun q : Nat => s.heap.size ≤ q) s.heap H locs) (hl : lv_has ls 4 [(3, .int x3), (2, .ref zm), (1, .ref zx), (0, .ref b)]) : W p l e room_1 s m #[Value.ref b] below meth c H locs C S Q (F0 m 427 ls []) := by
  have hA : ∀ q : Nat, s.heap.size ≤ q → (fun q : Nat => s.heap.size ≤ q) q := fun _ h => h
  have hbA : ¬ (fun q : Nat => s.heap.size ≤ q) b := Nat.not_le.mpr hbl
  refine lv_aload_n hx hb dL_law_427 rfl (lv_at hl 2 rfl) ?_
  refine lv_aload_n hx hb dL_law_428 rfl (lv_at hl 3 rfl) ?_
  refine lv_iload_n hx hb dL_law_429 rfl (lv_at hl 0 rfl) ?_
  refine lv_iconst (v := (1 : Int32)) hx hb dL_law_430 (by decide) ?_
  refine lv_iadd hx hb dL_law_431 ?_
  refine va_sld hx hb hX hbl hbA hS h1 dL_law_432 ?_
  obtain ⟨r, WX2, WM2, k1, k2, hI2⟩ := h_st zx zm WX WM ((xs (Int32.toNatClampNeg (x3 + (1 : Int32))))) hI
  obtain ⟨fx, hfx⟩ := hrx _ _ _ _ hI
  obtain ⟨fm, hfm⟩ := hrm _ _ _ _ hI
  refine px_callL (w1' := WX2) (va_runV (As := [.int (xs (Int32.toNatClampNeg (x3 + (1 : Int32))))]) (rest := []) ⟨hx, hb, hml, hown, hts⟩ (k1 H.size) (cwV 1 hts gL_law_X10_tree rfl rfl rfl hvX10_tree ⟨Nat.le_of_ble_eq_true rfl, Nat.le_of_ble_eq_true rfl⟩) (px_preL (ci := 10) hK hN hP hD rfl hfx) rfl rfl hl.1 rfl (lv_room (Nat.le_of_ble_eq_true rfl)) dL_law_433 ⟨hC, hSl⟩) hP hD hS hA (fun H locs hP hD hS => ?_)
  refine W.eq (g2 := F0 m 436 ls [.int r]) rfl ?_
  refine lv_aload_n hx hb dL_law_436 rfl (lv_at hl 1 rfl) ?_
  refine lv_aload_n hx hb dL_law_437 rfl (lv_at hl 3 rfl) ?_
  refine lv_iload_n hx hb dL_law_438 rfl (lv_at hl 0 rfl) ?_
  refine lv_iconst (v := (1 : Int32)) hx hb dL_law_439 (by decide) ?_
  refine lv_iadd hx hb dL_law_440 ?_
  refine va_sld hx hb hX hbl hbA hS h1 dL_law_441 ?_
  refine px_callY (w2' := WM2) (va_runV (As := [.int (xs (Int32.toNatClampNeg (x3 + (1 : Int32))))]) (rest := [.int r]) ⟨hx, hb, hml, hown, hts⟩ (k2 H.size) (cwV 1 hts gL_law_X11_tree rfl rfl rfl hvX11_tree ⟨Nat.le_of_ble_eq_true rfl, Nat.le_of_ble_eq_true rfl⟩) (px_preY (ci := 11) hK hN hP hD rfl hfm) rfl rfl hl.1 rfl (lv_room (Nat.le_of_ble_eq_true rfl)) dL_law_442 ⟨hC, hSl⟩) hP hD hS hA (fun H locs hP hD hS => ?_)
  refine W.eq (g2 := F0 m 445 ls [.int r, .int r]) rfl ?_
  refine lv_icmp_eq (tgt := 1413) hx hb dL_law_445 (by decide) (fun _ => ?_) (fun cc => absurd rfl cc)
  exact fin _ _ _ _ hI2 hP hD hS
set_option maxHeartbeats 4000000 in
set_option maxRecDepth 100000 in
theorem lwc_grown {p : Program} {l : Launch} {e : Env} {s : State} {m : MethodId} {below : List Frame} {meth : Method} {c : Code} {Q : State → Prop} (dC : Nat → ClassId) (dI : Nat → Nat → Nat) (cyI cyZ cyJ cyB cyO : ClassId) (sK sV tS : Nat → Nat) (b L C S : Nat) (xs : Nat → Int32) (I : Nat → Nat → va_W → va_W → Prop) (hx : p.tables.exec = Jvm.exec) (hb : c.code = cL_law) (hml : c.maxLocals = 4) (hts : ∀ w ∈ wsL_law, w.before #[Value.ref b] s = true) (hown : s.vm.findClass RL = some m.cls) (hX : va_X b L xs s s.heap) (hbl : b < s.heap.size) (hK : va_K (dC, dI) vwCl (px_TY cyI cyZ cyJ cyB cyO) s) (hN : px_NW s) (hG : px_SG sK sV tS (fun q : Nat => s.heap.size ≤ q) s s.heap) (hC : C ≤ 600000) (hSl : S ≤ 7302250) (hrx : ∀ hx hm WX WM, I hx hm WX WM → ∃ fs, WX[0]? = some (hx, .inr (10, fs))) (hrm : ∀ hx hm WX WM, I hx hm WX WM → ∃ fs, WM[0]? = some (hm, .inr (11, fs))) (h_st : sm_grown l sK sV tS dC dI cyI cyZ cyJ cyB cyO I) (zx zm : Nat) (WX WM : va_W) (hI : I zx zm WX WM) (x3 : Int32) (h0 : vp_in x3 L) (h1 : vp_in (x3 + 1) L) (h2 : vp_in (x3 + 2) L) (h3 : vp_in (x3 + 3) L) (h4 : vp_in (x3 + 4) L) (ls : Array Slot) (fin : ∀ (H : Heap) (locs : List Loc) (WX2 WM2 : va_W), I zx zm WX2 WM2 → va_P (dC, dI) vwCl (WX2 ++ WM2) H → va_D (fun q : Nat => s.heap.size ≤ q) (WX2 ++ WM2) → va_S (fun q : Nat => s.heap.size ≤ q) s.heap H locs → W p l e room_1 s m #[Value.ref b] below meth c H locs C S Q (F0 m 1413 ls [])) (H : Heap) (locs : List Loc) (hP : va_P (dC, dI) vwCl (WX ++ WM) H) (hD : va_D (fun q : Nat => s.heap.size ≤ q) (WX ++ WM)) (hS : va_S (fun q : Nat => s.heap.size ≤ q) s.heap H locs) (hl : lv_has ls 4 [(3, .int x3), (2, .ref zm), (1, .ref zx), (0, .ref b)]) : W p l e room_1 s m #[Value.ref b] below meth c H locs C S Q (F0 m 450 ls []) := by
  have hA : ∀ q : Nat, s.heap.size ≤ q → (fun q : Nat => s.heap.size ≤ q) q := fun _ h => h
  have hbA : ¬ (fun q : Nat => s.heap.size ≤ q) b := Nat.not_le.mpr hbl
  refine lv_aload_n hx hb dL_law_450 rfl (lv_at hl 2 rfl) ?_
  refine lv_aload_n hx hb dL_law_451 rfl (lv_at hl 3 rfl) ?_
  refine lv_iload_n hx hb dL_law_452 rfl (lv_at hl 0 rfl) ?_
  refine lv_iconst (v := (1 : Int32)) hx hb dL_law_453 (by decide) ?_
  refine lv_iadd hx hb dL_law_454 ?_
  refine va_sld hx hb hX hbl hbA hS h1 dL_law_455 ?_
  obtain ⟨r, WX2, WM2, k1, k2, hI2⟩ := h_st zx zm WX WM ((xs (Int32.toNatClampNeg (x3 + (1 : Int32))))) hI
  obtain ⟨fx, hfx⟩ := hrx _ _ _ _ hI
  obtain ⟨fm, hfm⟩ := hrm _ _ _ _ hI
  refine px_callL (w1' := WX2) (va_runV (As := [.int (xs (Int32.toNatClampNeg (x3 + (1 : Int32))))]) (rest := []) ⟨hx, hb, hml, hown, hts⟩ (k1 H.size) (cwV 1 hts gL_law_X10_grown rfl rfl rfl hvX10_grown ⟨Nat.le_of_ble_eq_true rfl, Nat.le_of_ble_eq_true rfl⟩) (px_preL (ci := 10) hK hN hP hD rfl hfx) rfl rfl hl.1 rfl (lv_room (Nat.le_of_ble_eq_true rfl)) dL_law_456 ⟨hC, hSl⟩) hP hD hS hA (fun H locs hP hD hS => ?_)
  refine W.eq (g2 := F0 m 459 ls [.int r]) rfl ?_
  refine lv_aload_n hx hb dL_law_459 rfl (lv_at hl 1 rfl) ?_
  refine lv_aload_n hx hb dL_law_460 rfl (lv_at hl 3 rfl) ?_
  refine lv_iload_n hx hb dL_law_461 rfl (lv_at hl 0 rfl) ?_
  refine lv_iconst (v := (1 : Int32)) hx hb dL_law_462 (by decide) ?_
  refine lv_iadd hx hb dL_law_463 ?_
  refine va_sld hx hb hX hbl hbA hS h1 dL_law_464 ?_
  refine px_callY (w2' := WM2) (va_runV (As := [.int (xs (Int32.toNatClampNeg (x3 + (1 : Int32))))]) (rest := [.int r]) ⟨hx, hb, hml, hown, hts⟩ (k2 H.size) (cwV 1 hts gL_law_X11_grown rfl rfl rfl hvX11_grown ⟨Nat.le_of_ble_eq_true rfl, Nat.le_of_ble_eq_true rfl⟩) (px_preY (ci := 11) hK hN hP hD rfl hfm) rfl rfl hl.1 rfl (lv_room (Nat.le_of_ble_eq_true rfl)) dL_law_465 ⟨hC, hSl⟩) hP hD hS hA (fun H locs hP hD hS => ?_)
  refine W.eq (g2 := F0 m 468 ls [.int r, .int r]) rfl ?_
  refine lv_icmp_eq (tgt := 1413) hx hb dL_law_468 (by decide) (fun _ => ?_) (fun cc => absurd rfl cc)
  exact fin _ _ _ _ hI2 hP hD hS
set_option maxHeartbeats 4000000 in
set_option maxRecDepth 100000 in
theorem lwc_heard {p : Program} {l : Launch} {e : Env} {s : State} {m : MethodId} {below : List Frame} {meth : Method} {c : Code} {Q : State → Prop} (dC : Nat → ClassId) (dI : Nat → Nat → Nat) (cyI cyZ cyJ cyB cyO : ClassId) (sK sV tS : Nat → Nat) (b L C S : Nat) (xs : Nat → Int32) (I : Nat → Nat → va_W → va_W → Prop) (hx : p.tables.exec = Jvm.exec) (hb : c.code = cL_law) (hml : c.maxLocals = 4) (hts : ∀ w ∈ wsL_law, w.before #[Value.ref b] s = true) (hown : s.vm.findClass RL = some m.cls) (hX : va_X b L xs s s.heap) (hbl : b < s.heap.size) (hK : va_K (dC, dI) vwCl (px_TY cyI cyZ cyJ cyB cyO) s) (hN : px_NW s) (hG : px_SG sK sV tS (fun q : Nat => s.heap.size ≤ q) s s.heap) (hC : C ≤ 600000) (hSl : S ≤ 7302250) (hrx : ∀ hx hm WX WM, I hx hm WX WM → ∃ fs, WX[0]? = some (hx, .inr (10, fs))) (hrm : ∀ hx hm WX WM, I hx hm WX WM → ∃ fs, WM[0]? = some (hm, .inr (11, fs))) (h_st : sm_heard l sK sV tS dC dI cyI cyZ cyJ cyB cyO I) (zx zm : Nat) (WX WM : va_W) (hI : I zx zm WX WM) (x3 : Int32) (h0 : vp_in x3 L) (h1 : vp_in (x3 + 1) L) (h2 : vp_in (x3 + 2) L) (h3 : vp_in (x3 + 3) L) (h4 : vp_in (x3 + 4) L) (ls : Array Slot) (fin : ∀ (H : Heap) (locs : List Loc) (WX2 WM2 : va_W), I zx zm WX2 WM2 → va_P (dC, dI) vwCl (WX2 ++ WM2) H → va_D (fun q : Nat => s.heap.size ≤ q) (WX2 ++ WM2) → va_S (fun q : Nat => s.heap.size ≤ q) s.heap H locs → W p l e room_1 s m #[Value.ref b] below meth c H locs C S Q (F0 m 1413 ls [])) (H : Heap) (locs : List Loc) (hP : va_P (dC, dI) vwCl (WX ++ WM) H) (hD : va_D (fun q : Nat => s.heap.size ≤ q) (WX ++ WM)) (hS : va_S (fun q : Nat => s.heap.size ≤ q) s.heap H locs) (hl : lv_has ls 4 [(3, .int x3), (2, .ref zm), (1, .ref zx), (0, .ref b)]) : W p l e room_1 s m #[Value.ref b] below meth c H locs C S Q (F0 m 473 ls []) := by
  have hA : ∀ q : Nat, s.heap.size ≤ q → (fun q : Nat => s.heap.size ≤ q) q := fun _ h => h
  have hbA : ¬ (fun q : Nat => s.heap.size ≤ q) b := Nat.not_le.mpr hbl
  refine lv_aload_n hx hb dL_law_473 rfl (lv_at hl 2 rfl) ?_
  refine lv_aload_n hx hb dL_law_474 rfl (lv_at hl 3 rfl) ?_
  refine lv_iload_n hx hb dL_law_475 rfl (lv_at hl 0 rfl) ?_
  refine lv_iconst (v := (1 : Int32)) hx hb dL_law_476 (by decide) ?_
  refine lv_iadd hx hb dL_law_477 ?_
  refine va_sld hx hb hX hbl hbA hS h1 dL_law_478 ?_
  refine lv_aload_n hx hb dL_law_479 rfl (lv_at hl 3 rfl) ?_
  refine lv_iload_n hx hb dL_law_480 rfl (lv_at hl 0 rfl) ?_
  refine lv_iconst (v := (2 : Int32)) hx hb dL_law_481 (by decide) ?_
  refine lv_iadd hx hb dL_law_482 ?_
  refine va_sld hx hb hX hbl hbA hS h2 dL_law_483 ?_
  obtain ⟨r, WX2, WM2, k1, k2, hI2⟩ := h_st zx zm WX WM ((xs (Int32.toNatClampNeg (x3 + (1 : Int32))))) ((xs (Int32.toNatClampNeg (x3 + (2 : Int32))))) hI
  obtain ⟨fx, hfx⟩ := hrx _ _ _ _ hI
  obtain ⟨fm, hfm⟩ := hrm _ _ _ _ hI
  refine px_callL (w1' := WX2) (va_runV (As := [.int (xs (Int32.toNatClampNeg (x3 + (1 : Int32)))), .int (xs (Int32.toNatClampNeg (x3 + (2 : Int32))))]) (rest := []) ⟨hx, hb, hml, hown, hts⟩ (k1 H.size) (cwV 2 hts gL_law_X10_heard rfl rfl rfl hvX10_heard ⟨Nat.le_of_ble_eq_true rfl, Nat.le_of_ble_eq_true rfl⟩) (px_preL (ci := 10) hK hN hP hD rfl hfx) rfl rfl hl.1 rfl (lv_room (Nat.le_of_ble_eq_true rfl)) dL_law_484 ⟨hC, hSl⟩) hP hD hS hA (fun H locs hP hD hS => ?_)
  refine W.eq (g2 := F0 m 487 ls [.int r]) rfl ?_
  refine lv_aload_n hx hb dL_law_487 rfl (lv_at hl 1 rfl) ?_
  refine lv_aload_n hx hb dL_law_488 rfl (lv_at hl 3 rfl) ?_
  refine lv_iload_n hx hb dL_law_489 rfl (lv_at hl 0 rfl) ?_
  refine lv_iconst (v := (1 : Int32)) hx hb dL_law_490 (by decide) ?_
  refine lv_iadd hx hb dL_law_491 ?_
  refine va_sld hx hb hX hbl hbA hS h1 dL_law_492 ?_
  refine lv_aload_n hx hb dL_law_493 rfl (lv_at hl 3 rfl) ?_
  refine lv_iload_n hx hb dL_law_494 rfl (lv_at hl 0 rfl) ?_
  refine lv_iconst (v := (2 : Int32)) hx hb dL_law_495 (by decide) ?_
  refine lv_iadd hx hb dL_law_496 ?_
  refine va_sld hx hb hX hbl hbA hS h2 dL_law_497 ?_
  refine px_callY (w2' := WM2) (va_runV (As := [.int (xs (Int32.toNatClampNeg (x3 + (1 : Int32)))), .int (xs (Int32.toNatClampNeg (x3 + (2 : Int32))))]) (rest := [.int r]) ⟨hx, hb, hml, hown, hts⟩ (k2 H.size) (cwV 2 hts gL_law_X11_heard rfl rfl rfl hvX11_heard ⟨Nat.le_of_ble_eq_true rfl, Nat.le_of_ble_eq_true rfl⟩) (px_preY (ci := 11) hK hN hP hD rfl hfm) rfl rfl hl.1 rfl (lv_room (Nat.le_of_ble_eq_true rfl)) dL_law_498 ⟨hC, hSl⟩) hP hD hS hA (fun H locs hP hD hS => ?_)
  refine W.eq (g2 := F0 m 501 ls [.int r, .int r]) rfl ?_
  refine lv_icmp_eq (tgt := 1413) hx hb dL_law_501 (by decide) (fun _ => ?_) (fun cc => absurd rfl cc)
  exact fin _ _ _ _ hI2 hP hD hS
set_option maxHeartbeats 4000000 in
set_option maxRecDepth 100000 in
theorem lwc_learns {p : Program} {l : Launch} {e : Env} {s : State} {m : MethodId} {below : List Frame} {meth : Method} {c : Code} {Q : State → Prop} (dC : Nat → ClassId) (dI : Nat → Nat → Nat) (cyI cyZ cyJ cyB cyO : ClassId) (sK sV tS : Nat → Nat) (b L C S : Nat) (xs : Nat → Int32) (I : Nat → Nat → va_W → va_W → Prop) (hx : p.tables.exec = Jvm.exec) (hb : c.code = cL_law) (hml : c.maxLocals = 4) (hts : ∀ w ∈ wsL_law, w.before #[Value.ref b] s = true) (hown : s.vm.findClass RL = some m.cls) (hX : va_X b L xs s s.heap) (hbl : b < s.heap.size) (hK : va_K (dC, dI) vwCl (px_TY cyI cyZ cyJ cyB cyO) s) (hN : px_NW s) (hG : px_SG sK sV tS (fun q : Nat => s.heap.size ≤ q) s s.heap) (hC : C ≤ 600000) (hSl : S ≤ 7302250) (hrx : ∀ hx hm WX WM, I hx hm WX WM → ∃ fs, WX[0]? = some (hx, .inr (10, fs))) (hrm : ∀ hx hm WX WM, I hx hm WX WM → ∃ fs, WM[0]? = some (hm, .inr (11, fs))) (h_st : sm_learns l sK sV tS dC dI cyI cyZ cyJ cyB cyO I) (zx zm : Nat) (WX WM : va_W) (hI : I zx zm WX WM) (x3 : Int32) (h0 : vp_in x3 L) (h1 : vp_in (x3 + 1) L) (h2 : vp_in (x3 + 2) L) (h3 : vp_in (x3 + 3) L) (h4 : vp_in (x3 + 4) L) (ls : Array Slot) (fin : ∀ (H : Heap) (locs : List Loc) (WX2 WM2 : va_W), I zx zm WX2 WM2 → va_P (dC, dI) vwCl (WX2 ++ WM2) H → va_D (fun q : Nat => s.heap.size ≤ q) (WX2 ++ WM2) → va_S (fun q : Nat => s.heap.size ≤ q) s.heap H locs → W p l e room_1 s m #[Value.ref b] below meth c H locs C S Q (F0 m 1413 ls [])) (H : Heap) (locs : List Loc) (hP : va_P (dC, dI) vwCl (WX ++ WM) H) (hD : va_D (fun q : Nat => s.heap.size ≤ q) (WX ++ WM)) (hS : va_S (fun q : Nat => s.heap.size ≤ q) s.heap H locs) (hl : lv_has ls 4 [(3, .int x3), (2, .ref zm), (1, .ref zx), (0, .ref b)]) : W p l e room_1 s m #[Value.ref b] below meth c H locs C S Q (F0 m 506 ls []) := by
  have hA : ∀ q : Nat, s.heap.size ≤ q → (fun q : Nat => s.heap.size ≤ q) q := fun _ h => h
  have hbA : ¬ (fun q : Nat => s.heap.size ≤ q) b := Nat.not_le.mpr hbl
  refine lv_aload_n hx hb dL_law_506 rfl (lv_at hl 2 rfl) ?_
  refine lv_aload_n hx hb dL_law_507 rfl (lv_at hl 3 rfl) ?_
  refine lv_iload_n hx hb dL_law_508 rfl (lv_at hl 0 rfl) ?_
  refine lv_iconst (v := (1 : Int32)) hx hb dL_law_509 (by decide) ?_
  refine lv_iadd hx hb dL_law_510 ?_
  refine va_sld hx hb hX hbl hbA hS h1 dL_law_511 ?_
  obtain ⟨r, WX2, WM2, k1, k2, hI2⟩ := h_st zx zm WX WM ((xs (Int32.toNatClampNeg (x3 + (1 : Int32))))) hI
  obtain ⟨fx, hfx⟩ := hrx _ _ _ _ hI
  obtain ⟨fm, hfm⟩ := hrm _ _ _ _ hI
  refine px_callL (w1' := WX2) (va_runV (As := [.int (xs (Int32.toNatClampNeg (x3 + (1 : Int32))))]) (rest := []) ⟨hx, hb, hml, hown, hts⟩ (k1 H.size) (cwV 1 hts gL_law_X10_learns rfl rfl rfl hvX10_learns ⟨Nat.le_of_ble_eq_true rfl, Nat.le_of_ble_eq_true rfl⟩) (px_preL (ci := 10) hK hN hP hD rfl hfx) rfl rfl hl.1 rfl (lv_room (Nat.le_of_ble_eq_true rfl)) dL_law_512 ⟨hC, hSl⟩) hP hD hS hA (fun H locs hP hD hS => ?_)
  refine W.eq (g2 := F0 m 515 ls [.int r]) rfl ?_
  refine lv_aload_n hx hb dL_law_515 rfl (lv_at hl 1 rfl) ?_
  refine lv_aload_n hx hb dL_law_516 rfl (lv_at hl 3 rfl) ?_
  refine lv_iload_n hx hb dL_law_517 rfl (lv_at hl 0 rfl) ?_
  refine lv_iconst (v := (1 : Int32)) hx hb dL_law_518 (by decide) ?_
  refine lv_iadd hx hb dL_law_519 ?_
  refine va_sld hx hb hX hbl hbA hS h1 dL_law_520 ?_
  refine px_callY (w2' := WM2) (va_runV (As := [.int (xs (Int32.toNatClampNeg (x3 + (1 : Int32))))]) (rest := [.int r]) ⟨hx, hb, hml, hown, hts⟩ (k2 H.size) (cwV 1 hts gL_law_X11_learns rfl rfl rfl hvX11_learns ⟨Nat.le_of_ble_eq_true rfl, Nat.le_of_ble_eq_true rfl⟩) (px_preY (ci := 11) hK hN hP hD rfl hfm) rfl rfl hl.1 rfl (lv_room (Nat.le_of_ble_eq_true rfl)) dL_law_521 ⟨hC, hSl⟩) hP hD hS hA (fun H locs hP hD hS => ?_)
  refine W.eq (g2 := F0 m 524 ls [.int r, .int r]) rfl ?_
  refine lv_icmp_eq (tgt := 1413) hx hb dL_law_524 (by decide) (fun _ => ?_) (fun cc => absurd rfl cc)
  exact fin _ _ _ _ hI2 hP hD hS
set_option maxHeartbeats 4000000 in
set_option maxRecDepth 100000 in
theorem lwc_would {p : Program} {l : Launch} {e : Env} {s : State} {m : MethodId} {below : List Frame} {meth : Method} {c : Code} {Q : State → Prop} (dC : Nat → ClassId) (dI : Nat → Nat → Nat) (cyI cyZ cyJ cyB cyO : ClassId) (sK sV tS : Nat → Nat) (b L C S : Nat) (xs : Nat → Int32) (I : Nat → Nat → va_W → va_W → Prop) (hx : p.tables.exec = Jvm.exec) (hb : c.code = cL_law) (hml : c.maxLocals = 4) (hts : ∀ w ∈ wsL_law, w.before #[Value.ref b] s = true) (hown : s.vm.findClass RL = some m.cls) (hX : va_X b L xs s s.heap) (hbl : b < s.heap.size) (hK : va_K (dC, dI) vwCl (px_TY cyI cyZ cyJ cyB cyO) s) (hN : px_NW s) (hG : px_SG sK sV tS (fun q : Nat => s.heap.size ≤ q) s s.heap) (hC : C ≤ 600000) (hSl : S ≤ 7302250) (hrx : ∀ hx hm WX WM, I hx hm WX WM → ∃ fs, WX[0]? = some (hx, .inr (10, fs))) (hrm : ∀ hx hm WX WM, I hx hm WX WM → ∃ fs, WM[0]? = some (hm, .inr (11, fs))) (h_st : sm_would l sK sV tS dC dI cyI cyZ cyJ cyB cyO I) (zx zm : Nat) (WX WM : va_W) (hI : I zx zm WX WM) (x3 : Int32) (h0 : vp_in x3 L) (h1 : vp_in (x3 + 1) L) (h2 : vp_in (x3 + 2) L) (h3 : vp_in (x3 + 3) L) (h4 : vp_in (x3 + 4) L) (ls : Array Slot) (fin : ∀ (H : Heap) (locs : List Loc) (WX2 WM2 : va_W), I zx zm WX2 WM2 → va_P (dC, dI) vwCl (WX2 ++ WM2) H → va_D (fun q : Nat => s.heap.size ≤ q) (WX2 ++ WM2) → va_S (fun q : Nat => s.heap.size ≤ q) s.heap H locs → W p l e room_1 s m #[Value.ref b] below meth c H locs C S Q (F0 m 1413 ls [])) (H : Heap) (locs : List Loc) (hP : va_P (dC, dI) vwCl (WX ++ WM) H) (hD : va_D (fun q : Nat => s.heap.size ≤ q) (WX ++ WM)) (hS : va_S (fun q : Nat => s.heap.size ≤ q) s.heap H locs) (hl : lv_has ls 4 [(3, .int x3), (2, .ref zm), (1, .ref zx), (0, .ref b)]) : W p l e room_1 s m #[Value.ref b] below meth c H locs C S Q (F0 m 529 ls []) := by
  have hA : ∀ q : Nat, s.heap.size ≤ q → (fun q : Nat => s.heap.size ≤ q) q := fun _ h => h
  have hbA : ¬ (fun q : Nat => s.heap.size ≤ q) b := Nat.not_le.mpr hbl
  refine lv_aload_n hx hb dL_law_529 rfl (lv_at hl 2 rfl) ?_
  refine lv_aload_n hx hb dL_law_530 rfl (lv_at hl 3 rfl) ?_
  refine lv_iload_n hx hb dL_law_531 rfl (lv_at hl 0 rfl) ?_
  refine lv_iconst (v := (1 : Int32)) hx hb dL_law_532 (by decide) ?_
  refine lv_iadd hx hb dL_law_533 ?_
  refine va_sld hx hb hX hbl hbA hS h1 dL_law_534 ?_
  refine lv_aload_n hx hb dL_law_535 rfl (lv_at hl 3 rfl) ?_
  refine lv_iload_n hx hb dL_law_536 rfl (lv_at hl 0 rfl) ?_
  refine lv_iconst (v := (2 : Int32)) hx hb dL_law_537 (by decide) ?_
  refine lv_iadd hx hb dL_law_538 ?_
  refine va_sld hx hb hX hbl hbA hS h2 dL_law_539 ?_
  obtain ⟨r, WX2, WM2, k1, k2, hI2⟩ := h_st zx zm WX WM ((xs (Int32.toNatClampNeg (x3 + (1 : Int32))))) ((xs (Int32.toNatClampNeg (x3 + (2 : Int32))))) hI
  obtain ⟨fx, hfx⟩ := hrx _ _ _ _ hI
  obtain ⟨fm, hfm⟩ := hrm _ _ _ _ hI
  refine px_callL (w1' := WX2) (va_runV (As := [.int (xs (Int32.toNatClampNeg (x3 + (1 : Int32)))), .int (xs (Int32.toNatClampNeg (x3 + (2 : Int32))))]) (rest := []) ⟨hx, hb, hml, hown, hts⟩ (k1 H.size) (cwV 2 hts gL_law_X10_would rfl rfl rfl hvX10_would ⟨Nat.le_of_ble_eq_true rfl, Nat.le_of_ble_eq_true rfl⟩) (px_preL (ci := 10) hK hN hP hD rfl hfx) rfl rfl hl.1 rfl (lv_room (Nat.le_of_ble_eq_true rfl)) dL_law_540 ⟨hC, hSl⟩) hP hD hS hA (fun H locs hP hD hS => ?_)
  refine W.eq (g2 := F0 m 543 ls [.int r]) rfl ?_
  refine lv_aload_n hx hb dL_law_543 rfl (lv_at hl 1 rfl) ?_
  refine lv_aload_n hx hb dL_law_544 rfl (lv_at hl 3 rfl) ?_
  refine lv_iload_n hx hb dL_law_545 rfl (lv_at hl 0 rfl) ?_
  refine lv_iconst (v := (1 : Int32)) hx hb dL_law_546 (by decide) ?_
  refine lv_iadd hx hb dL_law_547 ?_
  refine va_sld hx hb hX hbl hbA hS h1 dL_law_548 ?_
  refine lv_aload_n hx hb dL_law_549 rfl (lv_at hl 3 rfl) ?_
  refine lv_iload_n hx hb dL_law_550 rfl (lv_at hl 0 rfl) ?_
  refine lv_iconst (v := (2 : Int32)) hx hb dL_law_551 (by decide) ?_
  refine lv_iadd hx hb dL_law_552 ?_
  refine va_sld hx hb hX hbl hbA hS h2 dL_law_553 ?_
  refine px_callY (w2' := WM2) (va_runV (As := [.int (xs (Int32.toNatClampNeg (x3 + (1 : Int32)))), .int (xs (Int32.toNatClampNeg (x3 + (2 : Int32))))]) (rest := [.int r]) ⟨hx, hb, hml, hown, hts⟩ (k2 H.size) (cwV 2 hts gL_law_X11_would rfl rfl rfl hvX11_would ⟨Nat.le_of_ble_eq_true rfl, Nat.le_of_ble_eq_true rfl⟩) (px_preY (ci := 11) hK hN hP hD rfl hfm) rfl rfl hl.1 rfl (lv_room (Nat.le_of_ble_eq_true rfl)) dL_law_554 ⟨hC, hSl⟩) hP hD hS hA (fun H locs hP hD hS => ?_)
  refine W.eq (g2 := F0 m 557 ls [.int r, .int r]) rfl ?_
  refine lv_icmp_eq (tgt := 1413) hx hb dL_law_557 (by decide) (fun _ => ?_) (fun cc => absurd rfl cc)
  exact fin _ _ _ _ hI2 hP hD hS
set_option maxHeartbeats 4000000 in
set_option maxRecDepth 100000 in
theorem lwc_most {p : Program} {l : Launch} {e : Env} {s : State} {m : MethodId} {below : List Frame} {meth : Method} {c : Code} {Q : State → Prop} (dC : Nat → ClassId) (dI : Nat → Nat → Nat) (cyI cyZ cyJ cyB cyO : ClassId) (sK sV tS : Nat → Nat) (b L C S : Nat) (xs : Nat → Int32) (I : Nat → Nat → va_W → va_W → Prop) (hx : p.tables.exec = Jvm.exec) (hb : c.code = cL_law) (hml : c.maxLocals = 4) (hts : ∀ w ∈ wsL_law, w.before #[Value.ref b] s = true) (hown : s.vm.findClass RL = some m.cls) (hX : va_X b L xs s s.heap) (hbl : b < s.heap.size) (hK : va_K (dC, dI) vwCl (px_TY cyI cyZ cyJ cyB cyO) s) (hN : px_NW s) (hG : px_SG sK sV tS (fun q : Nat => s.heap.size ≤ q) s s.heap) (hC : C ≤ 600000) (hSl : S ≤ 7302250) (hrx : ∀ hx hm WX WM, I hx hm WX WM → ∃ fs, WX[0]? = some (hx, .inr (10, fs))) (hrm : ∀ hx hm WX WM, I hx hm WX WM → ∃ fs, WM[0]? = some (hm, .inr (11, fs))) (h_st : sm_most l sK sV tS dC dI cyI cyZ cyJ cyB cyO I) (zx zm : Nat) (WX WM : va_W) (hI : I zx zm WX WM) (x3 : Int32) (h0 : vp_in x3 L) (h1 : vp_in (x3 + 1) L) (h2 : vp_in (x3 + 2) L) (h3 : vp_in (x3 + 3) L) (h4 : vp_in (x3 + 4) L) (ls : Array Slot) (fin : ∀ (H : Heap) (locs : List Loc) (WX2 WM2 : va_W), I zx zm WX2 WM2 → va_P (dC, dI) vwCl (WX2 ++ WM2) H → va_D (fun q : Nat => s.heap.size ≤ q) (WX2 ++ WM2) → va_S (fun q : Nat => s.heap.size ≤ q) s.heap H locs → W p l e room_1 s m #[Value.ref b] below meth c H locs C S Q (F0 m 1413 ls [])) (H : Heap) (locs : List Loc) (hP : va_P (dC, dI) vwCl (WX ++ WM) H) (hD : va_D (fun q : Nat => s.heap.size ≤ q) (WX ++ WM)) (hS : va_S (fun q : Nat => s.heap.size ≤ q) s.heap H locs) (hl : lv_has ls 4 [(3, .int x3), (2, .ref zm), (1, .ref zx), (0, .ref b)]) : W p l e room_1 s m #[Value.ref b] below meth c H locs C S Q (F0 m 562 ls []) := by
  have hA : ∀ q : Nat, s.heap.size ≤ q → (fun q : Nat => s.heap.size ≤ q) q := fun _ h => h
  have hbA : ¬ (fun q : Nat => s.heap.size ≤ q) b := Nat.not_le.mpr hbl
  refine lv_aload_n hx hb dL_law_562 rfl (lv_at hl 2 rfl) ?_
  refine lv_aload_n hx hb dL_law_563 rfl (lv_at hl 3 rfl) ?_
  refine lv_iload_n hx hb dL_law_564 rfl (lv_at hl 0 rfl) ?_
  refine lv_iconst (v := (1 : Int32)) hx hb dL_law_565 (by decide) ?_
  refine lv_iadd hx hb dL_law_566 ?_
  refine va_sld hx hb hX hbl hbA hS h1 dL_law_567 ?_
  refine lv_aload_n hx hb dL_law_568 rfl (lv_at hl 3 rfl) ?_
  refine lv_iload_n hx hb dL_law_569 rfl (lv_at hl 0 rfl) ?_
  refine lv_iconst (v := (2 : Int32)) hx hb dL_law_570 (by decide) ?_
  refine lv_iadd hx hb dL_law_571 ?_
  refine va_sld hx hb hX hbl hbA hS h2 dL_law_572 ?_
  refine lv_aload_n hx hb dL_law_573 rfl (lv_at hl 3 rfl) ?_
  refine lv_iload_n hx hb dL_law_574 rfl (lv_at hl 0 rfl) ?_
  refine lv_iconst (v := (3 : Int32)) hx hb dL_law_575 (by decide) ?_
  refine lv_iadd hx hb dL_law_576 ?_
  refine va_sld hx hb hX hbl hbA hS h3 dL_law_577 ?_
  obtain ⟨r, WX2, WM2, k1, k2, hI2⟩ := h_st zx zm WX WM ((xs (Int32.toNatClampNeg (x3 + (1 : Int32))))) ((xs (Int32.toNatClampNeg (x3 + (2 : Int32))))) ((xs (Int32.toNatClampNeg (x3 + (3 : Int32))))) hI
  obtain ⟨fx, hfx⟩ := hrx _ _ _ _ hI
  obtain ⟨fm, hfm⟩ := hrm _ _ _ _ hI
  refine px_callL (w1' := WX2) (va_runV (As := [.int (xs (Int32.toNatClampNeg (x3 + (1 : Int32)))), .int (xs (Int32.toNatClampNeg (x3 + (2 : Int32)))), .int (xs (Int32.toNatClampNeg (x3 + (3 : Int32))))]) (rest := []) ⟨hx, hb, hml, hown, hts⟩ (k1 H.size) (cwV 3 hts gL_law_X10_most rfl rfl rfl hvX10_most ⟨Nat.le_of_ble_eq_true rfl, Nat.le_of_ble_eq_true rfl⟩) (px_preL (ci := 10) hK hN hP hD rfl hfx) rfl rfl hl.1 rfl (lv_room (Nat.le_of_ble_eq_true rfl)) dL_law_578 ⟨hC, hSl⟩) hP hD hS hA (fun H locs hP hD hS => ?_)
  refine W.eq (g2 := F0 m 581 ls [.int r]) rfl ?_
  refine lv_aload_n hx hb dL_law_581 rfl (lv_at hl 1 rfl) ?_
  refine lv_aload_n hx hb dL_law_582 rfl (lv_at hl 3 rfl) ?_
  refine lv_iload_n hx hb dL_law_583 rfl (lv_at hl 0 rfl) ?_
  refine lv_iconst (v := (1 : Int32)) hx hb dL_law_584 (by decide) ?_
  refine lv_iadd hx hb dL_law_585 ?_
  refine va_sld hx hb hX hbl hbA hS h1 dL_law_586 ?_
  refine lv_aload_n hx hb dL_law_587 rfl (lv_at hl 3 rfl) ?_
  refine lv_iload_n hx hb dL_law_588 rfl (lv_at hl 0 rfl) ?_
  refine lv_iconst (v := (2 : Int32)) hx hb dL_law_589 (by decide) ?_
  refine lv_iadd hx hb dL_law_590 ?_
  refine va_sld hx hb hX hbl hbA hS h2 dL_law_591 ?_
  refine lv_aload_n hx hb dL_law_592 rfl (lv_at hl 3 rfl) ?_
  refine lv_iload_n hx hb dL_law_593 rfl (lv_at hl 0 rfl) ?_
  refine lv_iconst (v := (3 : Int32)) hx hb dL_law_594 (by decide) ?_
  refine lv_iadd hx hb dL_law_595 ?_
  refine va_sld hx hb hX hbl hbA hS h3 dL_law_596 ?_
  refine px_callY (w2' := WM2) (va_runV (As := [.int (xs (Int32.toNatClampNeg (x3 + (1 : Int32)))), .int (xs (Int32.toNatClampNeg (x3 + (2 : Int32)))), .int (xs (Int32.toNatClampNeg (x3 + (3 : Int32))))]) (rest := [.int r]) ⟨hx, hb, hml, hown, hts⟩ (k2 H.size) (cwV 3 hts gL_law_X11_most rfl rfl rfl hvX11_most ⟨Nat.le_of_ble_eq_true rfl, Nat.le_of_ble_eq_true rfl⟩) (px_preY (ci := 11) hK hN hP hD rfl hfm) rfl rfl hl.1 rfl (lv_room (Nat.le_of_ble_eq_true rfl)) dL_law_597 ⟨hC, hSl⟩) hP hD hS hA (fun H locs hP hD hS => ?_)
  refine W.eq (g2 := F0 m 600 ls [.int r, .int r]) rfl ?_
  refine lv_icmp_eq (tgt := 1413) hx hb dL_law_600 (by decide) (fun _ => ?_) (fun cc => absurd rfl cc)
  exact fin _ _ _ _ hI2 hP hD hS
set_option maxHeartbeats 4000000 in
set_option maxRecDepth 100000 in
theorem lwc_feed {p : Program} {l : Launch} {e : Env} {s : State} {m : MethodId} {below : List Frame} {meth : Method} {c : Code} {Q : State → Prop} (dC : Nat → ClassId) (dI : Nat → Nat → Nat) (cyI cyZ cyJ cyB cyO : ClassId) (sK sV tS : Nat → Nat) (b L C S : Nat) (xs : Nat → Int32) (I : Nat → Nat → va_W → va_W → Prop) (hx : p.tables.exec = Jvm.exec) (hb : c.code = cL_law) (hml : c.maxLocals = 4) (hts : ∀ w ∈ wsL_law, w.before #[Value.ref b] s = true) (hown : s.vm.findClass RL = some m.cls) (hX : va_X b L xs s s.heap) (hbl : b < s.heap.size) (hK : va_K (dC, dI) vwCl (px_TY cyI cyZ cyJ cyB cyO) s) (hN : px_NW s) (hG : px_SG sK sV tS (fun q : Nat => s.heap.size ≤ q) s s.heap) (hC : C ≤ 600000) (hSl : S ≤ 7302250) (hrx : ∀ hx hm WX WM, I hx hm WX WM → ∃ fs, WX[0]? = some (hx, .inr (10, fs))) (hrm : ∀ hx hm WX WM, I hx hm WX WM → ∃ fs, WM[0]? = some (hm, .inr (11, fs))) (h_st : sm_feed l sK sV tS dC dI cyI cyZ cyJ cyB cyO I) (zx zm : Nat) (WX WM : va_W) (hI : I zx zm WX WM) (x3 : Int32) (h0 : vp_in x3 L) (h1 : vp_in (x3 + 1) L) (h2 : vp_in (x3 + 2) L) (h3 : vp_in (x3 + 3) L) (h4 : vp_in (x3 + 4) L) (ls : Array Slot) (fin : ∀ (H : Heap) (locs : List Loc) (WX2 WM2 : va_W), I zx zm WX2 WM2 → va_P (dC, dI) vwCl (WX2 ++ WM2) H → va_D (fun q : Nat => s.heap.size ≤ q) (WX2 ++ WM2) → va_S (fun q : Nat => s.heap.size ≤ q) s.heap H locs → W p l e room_1 s m #[Value.ref b] below meth c H locs C S Q (F0 m 1413 ls [])) (H : Heap) (locs : List Loc) (hP : va_P (dC, dI) vwCl (WX ++ WM) H) (hD : va_D (fun q : Nat => s.heap.size ≤ q) (WX ++ WM)) (hS : va_S (fun q : Nat => s.heap.size ≤ q) s.heap H locs) (hl : lv_has ls 4 [(3, .int x3), (2, .ref zm), (1, .ref zx), (0, .ref b)]) : W p l e room_1 s m #[Value.ref b] below meth c H locs C S Q (F0 m 605 ls []) := by
  have hA : ∀ q : Nat, s.heap.size ≤ q → (fun q : Nat => s.heap.size ≤ q) q := fun _ h => h
  have hbA : ¬ (fun q : Nat => s.heap.size ≤ q) b := Nat.not_le.mpr hbl
  refine lv_aload_n hx hb dL_law_605 rfl (lv_at hl 2 rfl) ?_
  refine lv_aload_n hx hb dL_law_606 rfl (lv_at hl 3 rfl) ?_
  refine lv_iload_n hx hb dL_law_607 rfl (lv_at hl 0 rfl) ?_
  refine lv_iconst (v := (1 : Int32)) hx hb dL_law_608 (by decide) ?_
  refine lv_iadd hx hb dL_law_609 ?_
  refine va_sld hx hb hX hbl hbA hS h1 dL_law_610 ?_
  refine lv_i2l hx hb dL_law_611 rfl ?_
  refine lv_bipush (v := (32 : Int32)) hx hb dL_law_612 (by decide) ?_
  refine lv_lshl hx hb dL_law_614 rfl ?_
  refine lv_aload_n hx hb dL_law_615 rfl (lv_at hl 3 rfl) ?_
  refine lv_iload_n hx hb dL_law_616 rfl (lv_at hl 0 rfl) ?_
  refine lv_iconst (v := (2 : Int32)) hx hb dL_law_617 (by decide) ?_
  refine lv_iadd hx hb dL_law_618 ?_
  refine va_sld hx hb hX hbl hbA hS h2 dL_law_619 ?_
  refine lv_i2l hx hb dL_law_620 rfl ?_
  refine lv_ldc2 (v := (4294967295 : Int64)) hx hb hown (hts _ lw_c70) dL_law_621 ?_
  refine lv_land hx hb dL_law_624 ?_
  refine lv_lor hx hb dL_law_625 ?_
  obtain ⟨r, WX2, WM2, k1, k2, hI2⟩ := h_st zx zm WX WM ((((Int32.toInt64 (xs (Int32.toNatClampNeg (x3 + (1 : Int32))))) <<< (Int32.toInt64 (32 : Int32) &&& (63 : Int64))) ||| ((Int32.toInt64 (xs (Int32.toNatClampNeg (x3 + (2 : Int32))))) &&& (4294967295 : Int64)))) hI
  obtain ⟨fx, hfx⟩ := hrx _ _ _ _ hI
  obtain ⟨fm, hfm⟩ := hrm _ _ _ _ hI
  refine px_callL (w1' := WX2) (va_runV (As := [.long (((Int32.toInt64 (xs (Int32.toNatClampNeg (x3 + (1 : Int32))))) <<< (Int32.toInt64 (32 : Int32) &&& (63 : Int64))) ||| ((Int32.toInt64 (xs (Int32.toNatClampNeg (x3 + (2 : Int32))))) &&& (4294967295 : Int64)))]) (rest := []) ⟨hx, hb, hml, hown, hts⟩ (k1 H.size) (cwV 1 hts gL_law_X10_feed rfl rfl rfl hvX10_feed ⟨Nat.le_of_ble_eq_true rfl, Nat.le_of_ble_eq_true rfl⟩) (px_preL (ci := 10) hK hN hP hD rfl hfx) rfl rfl hl.1 rfl (lv_room (Nat.le_of_ble_eq_true rfl)) dL_law_626 ⟨hC, hSl⟩) hP hD hS hA (fun H locs hP hD hS => ?_)
  refine W.eq (g2 := F0 m 629 ls [.int r]) rfl ?_
  refine lv_aload_n hx hb dL_law_629 rfl (lv_at hl 1 rfl) ?_
  refine lv_aload_n hx hb dL_law_630 rfl (lv_at hl 3 rfl) ?_
  refine lv_iload_n hx hb dL_law_631 rfl (lv_at hl 0 rfl) ?_
  refine lv_iconst (v := (1 : Int32)) hx hb dL_law_632 (by decide) ?_
  refine lv_iadd hx hb dL_law_633 ?_
  refine va_sld hx hb hX hbl hbA hS h1 dL_law_634 ?_
  refine lv_i2l hx hb dL_law_635 rfl ?_
  refine lv_bipush (v := (32 : Int32)) hx hb dL_law_636 (by decide) ?_
  refine lv_lshl hx hb dL_law_638 rfl ?_
  refine lv_aload_n hx hb dL_law_639 rfl (lv_at hl 3 rfl) ?_
  refine lv_iload_n hx hb dL_law_640 rfl (lv_at hl 0 rfl) ?_
  refine lv_iconst (v := (2 : Int32)) hx hb dL_law_641 (by decide) ?_
  refine lv_iadd hx hb dL_law_642 ?_
  refine va_sld hx hb hX hbl hbA hS h2 dL_law_643 ?_
  refine lv_i2l hx hb dL_law_644 rfl ?_
  refine lv_ldc2 (v := (4294967295 : Int64)) hx hb hown (hts _ lw_c70) dL_law_645 ?_
  refine lv_land hx hb dL_law_648 ?_
  refine lv_lor hx hb dL_law_649 ?_
  refine px_callY (w2' := WM2) (va_runV (As := [.long (((Int32.toInt64 (xs (Int32.toNatClampNeg (x3 + (1 : Int32))))) <<< (Int32.toInt64 (32 : Int32) &&& (63 : Int64))) ||| ((Int32.toInt64 (xs (Int32.toNatClampNeg (x3 + (2 : Int32))))) &&& (4294967295 : Int64)))]) (rest := [.int r]) ⟨hx, hb, hml, hown, hts⟩ (k2 H.size) (cwV 1 hts gL_law_X11_feed rfl rfl rfl hvX11_feed ⟨Nat.le_of_ble_eq_true rfl, Nat.le_of_ble_eq_true rfl⟩) (px_preY (ci := 11) hK hN hP hD rfl hfm) rfl rfl hl.1 rfl (lv_room (Nat.le_of_ble_eq_true rfl)) dL_law_650 ⟨hC, hSl⟩) hP hD hS hA (fun H locs hP hD hS => ?_)
  refine W.eq (g2 := F0 m 653 ls [.int r, .int r]) rfl ?_
  refine lv_icmp_eq (tgt := 1413) hx hb dL_law_653 (by decide) (fun _ => ?_) (fun cc => absurd rfl cc)
  exact fin _ _ _ _ hI2 hP hD hS
set_option maxHeartbeats 4000000 in
set_option maxRecDepth 100000 in
theorem lwc_end {p : Program} {l : Launch} {e : Env} {s : State} {m : MethodId} {below : List Frame} {meth : Method} {c : Code} {Q : State → Prop} (dC : Nat → ClassId) (dI : Nat → Nat → Nat) (cyI cyZ cyJ cyB cyO : ClassId) (sK sV tS : Nat → Nat) (b L C S : Nat) (xs : Nat → Int32) (I : Nat → Nat → va_W → va_W → Prop) (hx : p.tables.exec = Jvm.exec) (hb : c.code = cL_law) (hml : c.maxLocals = 4) (hts : ∀ w ∈ wsL_law, w.before #[Value.ref b] s = true) (hown : s.vm.findClass RL = some m.cls) (hX : va_X b L xs s s.heap) (hbl : b < s.heap.size) (hK : va_K (dC, dI) vwCl (px_TY cyI cyZ cyJ cyB cyO) s) (hN : px_NW s) (hG : px_SG sK sV tS (fun q : Nat => s.heap.size ≤ q) s s.heap) (hC : C ≤ 600000) (hSl : S ≤ 7302250) (hrx : ∀ hx hm WX WM, I hx hm WX WM → ∃ fs, WX[0]? = some (hx, .inr (10, fs))) (hrm : ∀ hx hm WX WM, I hx hm WX WM → ∃ fs, WM[0]? = some (hm, .inr (11, fs))) (h_st : sm_end l sK sV tS dC dI cyI cyZ cyJ cyB cyO I) (zx zm : Nat) (WX WM : va_W) (hI : I zx zm WX WM) (x3 : Int32) (h0 : vp_in x3 L) (h1 : vp_in (x3 + 1) L) (h2 : vp_in (x3 + 2) L) (h3 : vp_in (x3 + 3) L) (h4 : vp_in (x3 + 4) L) (ls : Array Slot) (fin : ∀ (H : Heap) (locs : List Loc) (WX2 WM2 : va_W), I zx zm WX2 WM2 → va_P (dC, dI) vwCl (WX2 ++ WM2) H → va_D (fun q : Nat => s.heap.size ≤ q) (WX2 ++ WM2) → va_S (fun q : Nat => s.heap.size ≤ q) s.heap H locs → W p l e room_1 s m #[Value.ref b] below meth c H locs C S Q (F0 m 1413 ls [])) (H : Heap) (locs : List Loc) (hP : va_P (dC, dI) vwCl (WX ++ WM) H) (hD : va_D (fun q : Nat => s.heap.size ≤ q) (WX ++ WM)) (hS : va_S (fun q : Nat => s.heap.size ≤ q) s.heap H locs) (hl : lv_has ls 4 [(3, .int x3), (2, .ref zm), (1, .ref zx), (0, .ref b)]) : W p l e room_1 s m #[Value.ref b] below meth c H locs C S Q (F0 m 658 ls []) := by
  have hA : ∀ q : Nat, s.heap.size ≤ q → (fun q : Nat => s.heap.size ≤ q) q := fun _ h => h
  have hbA : ¬ (fun q : Nat => s.heap.size ≤ q) b := Nat.not_le.mpr hbl
  refine lv_aload_n hx hb dL_law_658 rfl (lv_at hl 2 rfl) ?_
  refine lv_aload_n hx hb dL_law_659 rfl (lv_at hl 3 rfl) ?_
  refine lv_iload_n hx hb dL_law_660 rfl (lv_at hl 0 rfl) ?_
  refine lv_iconst (v := (1 : Int32)) hx hb dL_law_661 (by decide) ?_
  refine lv_iadd hx hb dL_law_662 ?_
  refine va_sld hx hb hX hbl hbA hS h1 dL_law_663 ?_
  obtain ⟨r, WX2, WM2, k1, k2, hI2⟩ := h_st zx zm WX WM ((xs (Int32.toNatClampNeg (x3 + (1 : Int32))))) hI
  obtain ⟨fx, hfx⟩ := hrx _ _ _ _ hI
  obtain ⟨fm, hfm⟩ := hrm _ _ _ _ hI
  refine px_callL (w1' := WX2) (va_runV (As := [.int (xs (Int32.toNatClampNeg (x3 + (1 : Int32))))]) (rest := []) ⟨hx, hb, hml, hown, hts⟩ (k1 H.size) (cwV 1 hts gL_law_X10_end rfl rfl rfl hvX10_end ⟨Nat.le_of_ble_eq_true rfl, Nat.le_of_ble_eq_true rfl⟩) (px_preL (ci := 10) hK hN hP hD rfl hfx) rfl rfl hl.1 rfl (lv_room (Nat.le_of_ble_eq_true rfl)) dL_law_664 ⟨hC, hSl⟩) hP hD hS hA (fun H locs hP hD hS => ?_)
  refine W.eq (g2 := F0 m 667 ls [.int r]) rfl ?_
  refine lv_aload_n hx hb dL_law_667 rfl (lv_at hl 1 rfl) ?_
  refine lv_aload_n hx hb dL_law_668 rfl (lv_at hl 3 rfl) ?_
  refine lv_iload_n hx hb dL_law_669 rfl (lv_at hl 0 rfl) ?_
  refine lv_iconst (v := (1 : Int32)) hx hb dL_law_670 (by decide) ?_
  refine lv_iadd hx hb dL_law_671 ?_
  refine va_sld hx hb hX hbl hbA hS h1 dL_law_672 ?_
  refine px_callY (w2' := WM2) (va_runV (As := [.int (xs (Int32.toNatClampNeg (x3 + (1 : Int32))))]) (rest := [.int r]) ⟨hx, hb, hml, hown, hts⟩ (k2 H.size) (cwV 1 hts gL_law_X11_end rfl rfl rfl hvX11_end ⟨Nat.le_of_ble_eq_true rfl, Nat.le_of_ble_eq_true rfl⟩) (px_preY (ci := 11) hK hN hP hD rfl hfm) rfl rfl hl.1 rfl (lv_room (Nat.le_of_ble_eq_true rfl)) dL_law_673 ⟨hC, hSl⟩) hP hD hS hA (fun H locs hP hD hS => ?_)
  refine W.eq (g2 := F0 m 676 ls [.int r, .int r]) rfl ?_
  refine lv_icmp_eq (tgt := 1413) hx hb dL_law_676 (by decide) (fun _ => ?_) (fun cc => absurd rfl cc)
  exact fin _ _ _ _ hI2 hP hD hS
set_option maxHeartbeats 4000000 in
set_option maxRecDepth 100000 in
theorem lwc_rules {p : Program} {l : Launch} {e : Env} {s : State} {m : MethodId} {below : List Frame} {meth : Method} {c : Code} {Q : State → Prop} (dC : Nat → ClassId) (dI : Nat → Nat → Nat) (cyI cyZ cyJ cyB cyO : ClassId) (sK sV tS : Nat → Nat) (b L C S : Nat) (xs : Nat → Int32) (I : Nat → Nat → va_W → va_W → Prop) (hx : p.tables.exec = Jvm.exec) (hb : c.code = cL_law) (hml : c.maxLocals = 4) (hts : ∀ w ∈ wsL_law, w.before #[Value.ref b] s = true) (hown : s.vm.findClass RL = some m.cls) (hX : va_X b L xs s s.heap) (hbl : b < s.heap.size) (hK : va_K (dC, dI) vwCl (px_TY cyI cyZ cyJ cyB cyO) s) (hN : px_NW s) (hG : px_SG sK sV tS (fun q : Nat => s.heap.size ≤ q) s s.heap) (hC : C ≤ 600000) (hSl : S ≤ 7302250) (hrx : ∀ hx hm WX WM, I hx hm WX WM → ∃ fs, WX[0]? = some (hx, .inr (10, fs))) (hrm : ∀ hx hm WX WM, I hx hm WX WM → ∃ fs, WM[0]? = some (hm, .inr (11, fs))) (h_st : sm_rules l sK sV tS dC dI cyI cyZ cyJ cyB cyO I) (zx zm : Nat) (WX WM : va_W) (hI : I zx zm WX WM) (x3 : Int32) (h0 : vp_in x3 L) (h1 : vp_in (x3 + 1) L) (h2 : vp_in (x3 + 2) L) (h3 : vp_in (x3 + 3) L) (h4 : vp_in (x3 + 4) L) (ls : Array Slot) (fin : ∀ (H : Heap) (locs : List Loc) (WX2 WM2 : va_W), I zx zm WX2 WM2 → va_P (dC, dI) vwCl (WX2 ++ WM2) H → va_D (fun q : Nat => s.heap.size ≤ q) (WX2 ++ WM2) → va_S (fun q : Nat => s.heap.size ≤ q) s.heap H locs → W p l e room_1 s m #[Value.ref b] below meth c H locs C S Q (F0 m 1413 ls [])) (H : Heap) (locs : List Loc) (hP : va_P (dC, dI) vwCl (WX ++ WM) H) (hD : va_D (fun q : Nat => s.heap.size ≤ q) (WX ++ WM)) (hS : va_S (fun q : Nat => s.heap.size ≤ q) s.heap H locs) (hl : lv_has ls 4 [(3, .int x3), (2, .ref zm), (1, .ref zx), (0, .ref b)]) : W p l e room_1 s m #[Value.ref b] below meth c H locs C S Q (F0 m 681 ls []) := by
  have hA : ∀ q : Nat, s.heap.size ≤ q → (fun q : Nat => s.heap.size ≤ q) q := fun _ h => h
  have hbA : ¬ (fun q : Nat => s.heap.size ≤ q) b := Nat.not_le.mpr hbl
  refine lv_aload_n hx hb dL_law_681 rfl (lv_at hl 2 rfl) ?_
  obtain ⟨r, WX2, WM2, k1, k2, hI2⟩ := h_st zx zm WX WM hI
  obtain ⟨fx, hfx⟩ := hrx _ _ _ _ hI
  obtain ⟨fm, hfm⟩ := hrm _ _ _ _ hI
  refine px_callL (w1' := WX2) (va_runV (As := []) (rest := []) ⟨hx, hb, hml, hown, hts⟩ (k1 H.size) (cwV 0 hts gL_law_X10_rules rfl rfl rfl hvX10_rules ⟨Nat.le_of_ble_eq_true rfl, Nat.le_of_ble_eq_true rfl⟩) (px_preLs (ci := 10) hG hS hA hK hN hP hD rfl hfx) rfl rfl hl.1 rfl (lv_room (Nat.le_of_ble_eq_true rfl)) dL_law_682 ⟨hC, hSl⟩) hP hD hS hA (fun H locs hP hD hS => ?_)
  refine W.eq (g2 := F0 m 685 ls [.int r]) rfl ?_
  refine lv_aload_n hx hb dL_law_685 rfl (lv_at hl 1 rfl) ?_
  refine px_callY (w2' := WM2) (va_runV (As := []) (rest := [.int r]) ⟨hx, hb, hml, hown, hts⟩ (k2 H.size) (cwV 0 hts gL_law_X11_rules rfl rfl rfl hvX11_rules ⟨Nat.le_of_ble_eq_true rfl, Nat.le_of_ble_eq_true rfl⟩) (px_preY (ci := 11) hK hN hP hD rfl hfm) rfl rfl hl.1 rfl (lv_room (Nat.le_of_ble_eq_true rfl)) dL_law_686 ⟨hC, hSl⟩) hP hD hS hA (fun H locs hP hD hS => ?_)
  refine W.eq (g2 := F0 m 689 ls [.int r, .int r]) rfl ?_
  refine lv_icmp_eq (tgt := 1413) hx hb dL_law_689 (by decide) (fun _ => ?_) (fun cc => absurd rfl cc)
  exact fin _ _ _ _ hI2 hP hD hS
set_option maxHeartbeats 4000000 in
set_option maxRecDepth 100000 in
theorem lwc_fault {p : Program} {l : Launch} {e : Env} {s : State} {m : MethodId} {below : List Frame} {meth : Method} {c : Code} {Q : State → Prop} (dC : Nat → ClassId) (dI : Nat → Nat → Nat) (cyI cyZ cyJ cyB cyO : ClassId) (sK sV tS : Nat → Nat) (b L C S : Nat) (xs : Nat → Int32) (I : Nat → Nat → va_W → va_W → Prop) (hx : p.tables.exec = Jvm.exec) (hb : c.code = cL_law) (hml : c.maxLocals = 4) (hts : ∀ w ∈ wsL_law, w.before #[Value.ref b] s = true) (hown : s.vm.findClass RL = some m.cls) (hX : va_X b L xs s s.heap) (hbl : b < s.heap.size) (hK : va_K (dC, dI) vwCl (px_TY cyI cyZ cyJ cyB cyO) s) (hN : px_NW s) (hG : px_SG sK sV tS (fun q : Nat => s.heap.size ≤ q) s s.heap) (hC : C ≤ 600000) (hSl : S ≤ 7302250) (hrx : ∀ hx hm WX WM, I hx hm WX WM → ∃ fs, WX[0]? = some (hx, .inr (10, fs))) (hrm : ∀ hx hm WX WM, I hx hm WX WM → ∃ fs, WM[0]? = some (hm, .inr (11, fs))) (h_st : sm_fault l sK sV tS dC dI cyI cyZ cyJ cyB cyO I) (zx zm : Nat) (WX WM : va_W) (hI : I zx zm WX WM) (x3 : Int32) (h0 : vp_in x3 L) (h1 : vp_in (x3 + 1) L) (h2 : vp_in (x3 + 2) L) (h3 : vp_in (x3 + 3) L) (h4 : vp_in (x3 + 4) L) (ls : Array Slot) (fin : ∀ (H : Heap) (locs : List Loc) (WX2 WM2 : va_W), I zx zm WX2 WM2 → va_P (dC, dI) vwCl (WX2 ++ WM2) H → va_D (fun q : Nat => s.heap.size ≤ q) (WX2 ++ WM2) → va_S (fun q : Nat => s.heap.size ≤ q) s.heap H locs → W p l e room_1 s m #[Value.ref b] below meth c H locs C S Q (F0 m 1413 ls [])) (H : Heap) (locs : List Loc) (hP : va_P (dC, dI) vwCl (WX ++ WM) H) (hD : va_D (fun q : Nat => s.heap.size ≤ q) (WX ++ WM)) (hS : va_S (fun q : Nat => s.heap.size ≤ q) s.heap H locs) (hl : lv_has ls 4 [(3, .int x3), (2, .ref zm), (1, .ref zx), (0, .ref b)]) : W p l e room_1 s m #[Value.ref b] below meth c H locs C S Q (F0 m 694 ls []) := by
  have hA : ∀ q : Nat, s.heap.size ≤ q → (fun q : Nat => s.heap.size ≤ q) q := fun _ h => h
  have hbA : ¬ (fun q : Nat => s.heap.size ≤ q) b := Nat.not_le.mpr hbl
  refine lv_aload_n hx hb dL_law_694 rfl (lv_at hl 2 rfl) ?_
  obtain ⟨r, WX2, WM2, k1, k2, hI2⟩ := h_st zx zm WX WM hI
  obtain ⟨fx, hfx⟩ := hrx _ _ _ _ hI
  obtain ⟨fm, hfm⟩ := hrm _ _ _ _ hI
  refine px_callL (w1' := WX2) (va_runV (As := []) (rest := []) ⟨hx, hb, hml, hown, hts⟩ (k1 H.size) (cwV 0 hts gL_law_X10_fault rfl rfl rfl hvX10_fault ⟨Nat.le_of_ble_eq_true rfl, Nat.le_of_ble_eq_true rfl⟩) (px_preL (ci := 10) hK hN hP hD rfl hfx) rfl rfl hl.1 rfl (lv_room (Nat.le_of_ble_eq_true rfl)) dL_law_695 ⟨hC, hSl⟩) hP hD hS hA (fun H locs hP hD hS => ?_)
  refine W.eq (g2 := F0 m 698 ls [.int r]) rfl ?_
  refine lv_aload_n hx hb dL_law_698 rfl (lv_at hl 1 rfl) ?_
  refine px_callY (w2' := WM2) (va_runV (As := []) (rest := [.int r]) ⟨hx, hb, hml, hown, hts⟩ (k2 H.size) (cwV 0 hts gL_law_X11_fault rfl rfl rfl hvX11_fault ⟨Nat.le_of_ble_eq_true rfl, Nat.le_of_ble_eq_true rfl⟩) (px_preY (ci := 11) hK hN hP hD rfl hfm) rfl rfl hl.1 rfl (lv_room (Nat.le_of_ble_eq_true rfl)) dL_law_699 ⟨hC, hSl⟩) hP hD hS hA (fun H locs hP hD hS => ?_)
  refine W.eq (g2 := F0 m 702 ls [.int r, .int r]) rfl ?_
  refine lv_icmp_eq (tgt := 1413) hx hb dL_law_702 (by decide) (fun _ => ?_) (fun cc => absurd rfl cc)
  exact fin _ _ _ _ hI2 hP hD hS
set_option maxHeartbeats 4000000 in
set_option maxRecDepth 100000 in
theorem lwc_rule {p : Program} {l : Launch} {e : Env} {s : State} {m : MethodId} {below : List Frame} {meth : Method} {c : Code} {Q : State → Prop} (dC : Nat → ClassId) (dI : Nat → Nat → Nat) (cyI cyZ cyJ cyB cyO : ClassId) (sK sV tS : Nat → Nat) (b L C S : Nat) (xs : Nat → Int32) (I : Nat → Nat → va_W → va_W → Prop) (hx : p.tables.exec = Jvm.exec) (hb : c.code = cL_law) (hml : c.maxLocals = 4) (hts : ∀ w ∈ wsL_law, w.before #[Value.ref b] s = true) (hown : s.vm.findClass RL = some m.cls) (hX : va_X b L xs s s.heap) (hbl : b < s.heap.size) (hK : va_K (dC, dI) vwCl (px_TY cyI cyZ cyJ cyB cyO) s) (hN : px_NW s) (hG : px_SG sK sV tS (fun q : Nat => s.heap.size ≤ q) s s.heap) (hC : C ≤ 600000) (hSl : S ≤ 7302250) (hrx : ∀ hx hm WX WM, I hx hm WX WM → ∃ fs, WX[0]? = some (hx, .inr (10, fs))) (hrm : ∀ hx hm WX WM, I hx hm WX WM → ∃ fs, WM[0]? = some (hm, .inr (11, fs))) (h_st : sm_rule l sK sV tS dC dI cyI cyZ cyJ cyB cyO I) (zx zm : Nat) (WX WM : va_W) (hI : I zx zm WX WM) (x3 : Int32) (h0 : vp_in x3 L) (h1 : vp_in (x3 + 1) L) (h2 : vp_in (x3 + 2) L) (h3 : vp_in (x3 + 3) L) (h4 : vp_in (x3 + 4) L) (ls : Array Slot) (fin : ∀ (H : Heap) (locs : List Loc) (WX2 WM2 : va_W), I zx zm WX2 WM2 → va_P (dC, dI) vwCl (WX2 ++ WM2) H → va_D (fun q : Nat => s.heap.size ≤ q) (WX2 ++ WM2) → va_S (fun q : Nat => s.heap.size ≤ q) s.heap H locs → W p l e room_1 s m #[Value.ref b] below meth c H locs C S Q (F0 m 1413 ls [])) (H : Heap) (locs : List Loc) (hP : va_P (dC, dI) vwCl (WX ++ WM) H) (hD : va_D (fun q : Nat => s.heap.size ≤ q) (WX ++ WM)) (hS : va_S (fun q : Nat => s.heap.size ≤ q) s.heap H locs) (hl : lv_has ls 4 [(3, .int x3), (2, .ref zm), (1, .ref zx), (0, .ref b)]) : W p l e room_1 s m #[Value.ref b] below meth c H locs C S Q (F0 m 707 ls []) := by
  have hA : ∀ q : Nat, s.heap.size ≤ q → (fun q : Nat => s.heap.size ≤ q) q := fun _ h => h
  have hbA : ¬ (fun q : Nat => s.heap.size ≤ q) b := Nat.not_le.mpr hbl
  refine lv_aload_n hx hb dL_law_707 rfl (lv_at hl 2 rfl) ?_
  refine lv_aload_n hx hb dL_law_708 rfl (lv_at hl 3 rfl) ?_
  refine lv_iload_n hx hb dL_law_709 rfl (lv_at hl 0 rfl) ?_
  refine lv_iconst (v := (1 : Int32)) hx hb dL_law_710 (by decide) ?_
  refine lv_iadd hx hb dL_law_711 ?_
  refine va_sld hx hb hX hbl hbA hS h1 dL_law_712 ?_
  obtain ⟨r, WX2, WM2, k1, k2, hI2⟩ := h_st zx zm WX WM ((xs (Int32.toNatClampNeg (x3 + (1 : Int32))))) hI
  obtain ⟨fx, hfx⟩ := hrx _ _ _ _ hI
  obtain ⟨fm, hfm⟩ := hrm _ _ _ _ hI
  refine px_callL (w1' := WX2) (va_runV (As := [.int (xs (Int32.toNatClampNeg (x3 + (1 : Int32))))]) (rest := []) ⟨hx, hb, hml, hown, hts⟩ (k1 H.size) (cwV 1 hts gL_law_X10_rule rfl rfl rfl hvX10_rule ⟨Nat.le_of_ble_eq_true rfl, Nat.le_of_ble_eq_true rfl⟩) (px_preL (ci := 10) hK hN hP hD rfl hfx) rfl rfl hl.1 rfl (lv_room (Nat.le_of_ble_eq_true rfl)) dL_law_713 ⟨hC, hSl⟩) hP hD hS hA (fun H locs hP hD hS => ?_)
  refine W.eq (g2 := F0 m 716 ls [.int r]) rfl ?_
  refine lv_aload_n hx hb dL_law_716 rfl (lv_at hl 1 rfl) ?_
  refine lv_aload_n hx hb dL_law_717 rfl (lv_at hl 3 rfl) ?_
  refine lv_iload_n hx hb dL_law_718 rfl (lv_at hl 0 rfl) ?_
  refine lv_iconst (v := (1 : Int32)) hx hb dL_law_719 (by decide) ?_
  refine lv_iadd hx hb dL_law_720 ?_
  refine va_sld hx hb hX hbl hbA hS h1 dL_law_721 ?_
  refine px_callY (w2' := WM2) (va_runV (As := [.int (xs (Int32.toNatClampNeg (x3 + (1 : Int32))))]) (rest := [.int r]) ⟨hx, hb, hml, hown, hts⟩ (k2 H.size) (cwV 1 hts gL_law_X11_rule rfl rfl rfl hvX11_rule ⟨Nat.le_of_ble_eq_true rfl, Nat.le_of_ble_eq_true rfl⟩) (px_preY (ci := 11) hK hN hP hD rfl hfm) rfl rfl hl.1 rfl (lv_room (Nat.le_of_ble_eq_true rfl)) dL_law_722 ⟨hC, hSl⟩) hP hD hS hA (fun H locs hP hD hS => ?_)
  refine W.eq (g2 := F0 m 725 ls [.int r, .int r]) rfl ?_
  refine lv_icmp_eq (tgt := 1413) hx hb dL_law_725 (by decide) (fun _ => ?_) (fun cc => absurd rfl cc)
  exact fin _ _ _ _ hI2 hP hD hS
set_option maxHeartbeats 4000000 in
set_option maxRecDepth 100000 in
theorem lwc_slot {p : Program} {l : Launch} {e : Env} {s : State} {m : MethodId} {below : List Frame} {meth : Method} {c : Code} {Q : State → Prop} (dC : Nat → ClassId) (dI : Nat → Nat → Nat) (cyI cyZ cyJ cyB cyO : ClassId) (sK sV tS : Nat → Nat) (b L C S : Nat) (xs : Nat → Int32) (I : Nat → Nat → va_W → va_W → Prop) (hx : p.tables.exec = Jvm.exec) (hb : c.code = cL_law) (hml : c.maxLocals = 4) (hts : ∀ w ∈ wsL_law, w.before #[Value.ref b] s = true) (hown : s.vm.findClass RL = some m.cls) (hX : va_X b L xs s s.heap) (hbl : b < s.heap.size) (hK : va_K (dC, dI) vwCl (px_TY cyI cyZ cyJ cyB cyO) s) (hN : px_NW s) (hG : px_SG sK sV tS (fun q : Nat => s.heap.size ≤ q) s s.heap) (hC : C ≤ 600000) (hSl : S ≤ 7302250) (hrx : ∀ hx hm WX WM, I hx hm WX WM → ∃ fs, WX[0]? = some (hx, .inr (10, fs))) (hrm : ∀ hx hm WX WM, I hx hm WX WM → ∃ fs, WM[0]? = some (hm, .inr (11, fs))) (h_st : sm_slot l sK sV tS dC dI cyI cyZ cyJ cyB cyO I) (zx zm : Nat) (WX WM : va_W) (hI : I zx zm WX WM) (x3 : Int32) (h0 : vp_in x3 L) (h1 : vp_in (x3 + 1) L) (h2 : vp_in (x3 + 2) L) (h3 : vp_in (x3 + 3) L) (h4 : vp_in (x3 + 4) L) (ls : Array Slot) (fin : ∀ (H : Heap) (locs : List Loc) (WX2 WM2 : va_W), I zx zm WX2 WM2 → va_P (dC, dI) vwCl (WX2 ++ WM2) H → va_D (fun q : Nat => s.heap.size ≤ q) (WX2 ++ WM2) → va_S (fun q : Nat => s.heap.size ≤ q) s.heap H locs → W p l e room_1 s m #[Value.ref b] below meth c H locs C S Q (F0 m 1413 ls [])) (H : Heap) (locs : List Loc) (hP : va_P (dC, dI) vwCl (WX ++ WM) H) (hD : va_D (fun q : Nat => s.heap.size ≤ q) (WX ++ WM)) (hS : va_S (fun q : Nat => s.heap.size ≤ q) s.heap H locs) (hl : lv_has ls 4 [(3, .int x3), (2, .ref zm), (1, .ref zx), (0, .ref b)]) : W p l e room_1 s m #[Value.ref b] below meth c H locs C S Q (F0 m 730 ls []) := by
  have hA : ∀ q : Nat, s.heap.size ≤ q → (fun q : Nat => s.heap.size ≤ q) q := fun _ h => h
  have hbA : ¬ (fun q : Nat => s.heap.size ≤ q) b := Nat.not_le.mpr hbl
  refine lv_aload_n hx hb dL_law_730 rfl (lv_at hl 2 rfl) ?_
  refine lv_aload_n hx hb dL_law_731 rfl (lv_at hl 3 rfl) ?_
  refine lv_iload_n hx hb dL_law_732 rfl (lv_at hl 0 rfl) ?_
  refine lv_iconst (v := (1 : Int32)) hx hb dL_law_733 (by decide) ?_
  refine lv_iadd hx hb dL_law_734 ?_
  refine va_sld hx hb hX hbl hbA hS h1 dL_law_735 ?_
  refine lv_aload_n hx hb dL_law_736 rfl (lv_at hl 3 rfl) ?_
  refine lv_iload_n hx hb dL_law_737 rfl (lv_at hl 0 rfl) ?_
  refine lv_iconst (v := (2 : Int32)) hx hb dL_law_738 (by decide) ?_
  refine lv_iadd hx hb dL_law_739 ?_
  refine va_sld hx hb hX hbl hbA hS h2 dL_law_740 ?_
  refine lv_aload_n hx hb dL_law_741 rfl (lv_at hl 3 rfl) ?_
  refine lv_iload_n hx hb dL_law_742 rfl (lv_at hl 0 rfl) ?_
  refine lv_iconst (v := (3 : Int32)) hx hb dL_law_743 (by decide) ?_
  refine lv_iadd hx hb dL_law_744 ?_
  refine va_sld hx hb hX hbl hbA hS h3 dL_law_745 ?_
  obtain ⟨r, WX2, WM2, k1, k2, hI2⟩ := h_st zx zm WX WM ((xs (Int32.toNatClampNeg (x3 + (1 : Int32))))) ((xs (Int32.toNatClampNeg (x3 + (2 : Int32))))) ((xs (Int32.toNatClampNeg (x3 + (3 : Int32))))) hI
  obtain ⟨fx, hfx⟩ := hrx _ _ _ _ hI
  obtain ⟨fm, hfm⟩ := hrm _ _ _ _ hI
  refine px_callL (w1' := WX2) (va_runV (As := [.int (xs (Int32.toNatClampNeg (x3 + (1 : Int32)))), .int (xs (Int32.toNatClampNeg (x3 + (2 : Int32)))), .int (xs (Int32.toNatClampNeg (x3 + (3 : Int32))))]) (rest := []) ⟨hx, hb, hml, hown, hts⟩ (k1 H.size) (cwV 3 hts gL_law_X10_slot rfl rfl rfl hvX10_slot ⟨Nat.le_of_ble_eq_true rfl, Nat.le_of_ble_eq_true rfl⟩) (px_preL (ci := 10) hK hN hP hD rfl hfx) rfl rfl hl.1 rfl (lv_room (Nat.le_of_ble_eq_true rfl)) dL_law_746 ⟨hC, hSl⟩) hP hD hS hA (fun H locs hP hD hS => ?_)
  refine W.eq (g2 := F0 m 749 ls [.int r]) rfl ?_
  refine lv_aload_n hx hb dL_law_749 rfl (lv_at hl 1 rfl) ?_
  refine lv_aload_n hx hb dL_law_750 rfl (lv_at hl 3 rfl) ?_
  refine lv_iload_n hx hb dL_law_751 rfl (lv_at hl 0 rfl) ?_
  refine lv_iconst (v := (1 : Int32)) hx hb dL_law_752 (by decide) ?_
  refine lv_iadd hx hb dL_law_753 ?_
  refine va_sld hx hb hX hbl hbA hS h1 dL_law_754 ?_
  refine lv_aload_n hx hb dL_law_755 rfl (lv_at hl 3 rfl) ?_
  refine lv_iload_n hx hb dL_law_756 rfl (lv_at hl 0 rfl) ?_
  refine lv_iconst (v := (2 : Int32)) hx hb dL_law_757 (by decide) ?_
  refine lv_iadd hx hb dL_law_758 ?_
  refine va_sld hx hb hX hbl hbA hS h2 dL_law_759 ?_
  refine lv_aload_n hx hb dL_law_760 rfl (lv_at hl 3 rfl) ?_
  refine lv_iload_n hx hb dL_law_761 rfl (lv_at hl 0 rfl) ?_
  refine lv_iconst (v := (3 : Int32)) hx hb dL_law_762 (by decide) ?_
  refine lv_iadd hx hb dL_law_763 ?_
  refine va_sld hx hb hX hbl hbA hS h3 dL_law_764 ?_
  refine px_callY (w2' := WM2) (va_runV (As := [.int (xs (Int32.toNatClampNeg (x3 + (1 : Int32)))), .int (xs (Int32.toNatClampNeg (x3 + (2 : Int32)))), .int (xs (Int32.toNatClampNeg (x3 + (3 : Int32))))]) (rest := [.int r]) ⟨hx, hb, hml, hown, hts⟩ (k2 H.size) (cwV 3 hts gL_law_X11_slot rfl rfl rfl hvX11_slot ⟨Nat.le_of_ble_eq_true rfl, Nat.le_of_ble_eq_true rfl⟩) (px_preY (ci := 11) hK hN hP hD rfl hfm) rfl rfl hl.1 rfl (lv_room (Nat.le_of_ble_eq_true rfl)) dL_law_765 ⟨hC, hSl⟩) hP hD hS hA (fun H locs hP hD hS => ?_)
  refine W.eq (g2 := F0 m 768 ls [.int r, .int r]) rfl ?_
  refine lv_icmp_eq (tgt := 1413) hx hb dL_law_768 (by decide) (fun _ => ?_) (fun cc => absurd rfl cc)
  exact fin _ _ _ _ hI2 hP hD hS
