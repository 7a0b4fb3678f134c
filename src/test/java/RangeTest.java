/** Each argument at the lowest and the highest value that the document gives it, which no call may refuse. */
public final class RangeTest {
    public static void main(String[] args) {
        law();
        cases();
        proof();
        evidence();
        asked();
        assets();
        caseNumbers();
        Check.end();
    }

    private static void accepted(Caller c, String name, Object... values) {
        String got = c.call(name, values);
        Check.same(Caller.text(name, values) + " answered " + got, got.startsWith("throws."), false);
    }

    private static void law() {
        Caller c = new Caller();
        accepted(c, "advance", 1);
        accepted(c, "advance", 100);
        accepted(c, "enact", 0, 0, false, -1);
        accepted(c, "enact", 3, 7, true, -1);
        accepted(c, "enact", 0, 7, true, 1);
        for (int i = 3; i < 23; i++) {
            accepted(c, "enact", 0, 0, true, 0);
        }
        accepted(c, "enact", 0, 0, true, 22);
        for (Object[] ends : new Object[][] {{'f', 0, 15}, {'n', 0, 15}, {'h', 0, 6}, {'x', 0, 6}}) {
            accepted(c, "condition", 1, ends[0], ends[1]);
            accepted(c, "condition", 2, ends[0], ends[2]);
        }
        accepted(c, "condition", 0, 'f', 0);
        accepted(c, "condition", 23, 'f', 15);
        for (int section : new int[] {0, 23}) {
            accepted(c, "act", section, true, 0);
            accepted(c, "act", section, false, 9999);
            accepted(c, "isInForce", section, 0, 0);
            accepted(c, "isInForce", section, Integer.MAX_VALUE, 0);
            accepted(c, "isInForce", section, 0, Integer.MAX_VALUE);
        }
    }

    private static void cases() {
        Caller c = new Caller();
        accepted(c, "begin", 0, 9, 0, 1, 0, 0);
        accepted(c, "begin", 9, 0, 7, 99999, 2, 0);
        accepted(c, "advance", 50);
        accepted(c, "begin", 9, 0, 7, 99999, 2, 50);
        accepted(c, "setLimit", 0, 0);
        accepted(c, "setLimit", 7, 999);
        accepted(c, "toll", 0, 9, 0, 0);
        accepted(c, "toll", 9, 0, 0, 9999);
        accepted(c, "toll", 0, 1, 9999, 9999);
        accepted(c, "setPrivilege", 0, 0, true);
        accepted(c, "setPrivilege", 9, 9, false);
        accepted(c, "setPrivilege", 0, 9, true);
        accepted(c, "setPrivilege", 9, 0, true);
        accepted(c, "answer", 0, 0, false);
        accepted(c, "answer", 1, 255, true);
    }

    private static void proof() {
        Caller c = new Caller();
        c.call("begin", 0, 1, 0, 1, 0, 0);
        for (int fact : new int[] {0, 15}) {
            for (int standard : new int[] {50, 75, 95}) {
                accepted(c, "setStandard", 0, fact, standard);
            }
            accepted(c, "presume", 0, fact, true);
            accepted(c, "presume", 0, fact, false);
            accepted(c, "concede", 0, fact);
            accepted(c, "concede", 0, fact);
            accepted(c, "joined", 0, fact, true);
            accepted(c, "joined", 0, fact, false);
            accepted(c, "isFound", 0, fact);
        }
        accepted(c, "wouldHold", 0, 0);
        accepted(c, "wouldHold", 0, 7);
    }

    private static void evidence() {
        Caller c = new Caller();
        c.call("begin", 0, 1, 0, 1, 0, 0);
        accepted(c, "addEvidence", 0, 0, true, 1, 0, -1);
        accepted(c, "addEvidence", 0, 0, false, 99, 9, 0);
        accepted(c, "addEvidence", 0, 15, true, 99, 9, -1);
        for (int i = 3; i < 20; i++) {
            accepted(c, "addEvidence", 0, 15, true, 99, 9, i - 1);
        }
        accepted(c, "isAdmitted", 0, 0);
        accepted(c, "isAdmitted", 0, 19);
    }

    private static void asked() {
        Caller c = new Caller();
        c.call("enact", 0, 7, true, -1);
        c.call("enact", 0, 7, true, -1);
        for (int issue = 0; issue < 7; issue++) {
            c.call("condition", issue / 4, 'h', issue);
        }
        c.call("act", 0, true, 0);
        c.call("act", 1, true, 0);
        c.call("begin", 0, 1, 7, 1, 1, 0);
        c.call("answer", 0, 255, false);
        accepted(c, "judge", 0);
        Check.same("rows", c.call("rows", 0), "8");
        for (int row : new int[] {0, 7}) {
            accepted(c, "rowIssue", 0, row);
            accepted(c, "rowHeld", 0, row);
            accepted(c, "rowBy", 0, row);
        }
        c.call("advance", 30);
        accepted(c, "appeal", 0);
        accepted(c, "decide", 0);
        accepted(c, "wonShare");
        accepted(c, "meanRows");
    }

    private static void assets() {
        Caller c = new Caller();
        accepted(c, "give", 0, 1);
        accepted(c, "give", 9, 99999);
        accepted(c, "assets", 0);
        accepted(c, "assets", 9);
        accepted(c, "insolvency", 0);
        accepted(c, "insolvency", 9);
    }

    private static void caseNumbers() {
        Caller c = new Caller();
        c.call("enact", 3, 0, true, -1);
        c.call("act", 0, true, 0);
        for (int i = 0; i < 16; i++) {
            c.call("begin", i % 8, 8 + i / 8, 0, 1, 2, 0);
        }
        for (int number : new int[] {0, 15}) {
            accepted(c, "addEvidence", number, 0, true, 1, 0, -1);
            accepted(c, "setStandard", number, 0, 50);
            accepted(c, "presume", number, 0, true);
            accepted(c, "concede", number, 0);
            accepted(c, "answer", number, 255, false);
            accepted(c, "judge", number);
            for (String name : new String[] {"elapsed", "isLate", "stateOf", "outcome", "court", "rows", "isPrecedent",
                "debt", "enforce"}) {
                accepted(c, name, number);
            }
            for (String name : new String[] {"isAdmitted", "isFound", "rowIssue", "rowHeld", "rowBy", "wouldHold"}) {
                accepted(c, name, number, 0);
            }
            accepted(c, "joined", number, 0, true);
            accepted(c, "setRank", number, 0);
            accepted(c, "setRank", number, 3);
        }
    }
}
