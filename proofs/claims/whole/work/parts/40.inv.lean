-- ===== what holds between calls =====
def Inv (S : St) : Prop := S.1 0 11 = S.1 74 4
