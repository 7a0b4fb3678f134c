/**
 * "A method that throws an exception changes nothing. If several exceptions apply, the one that is listed first is
 * thrown." Each refused call is made on an object of its own, which must then live on as one without that call.
 */
public final class RefusalTest {
    private static final String ARGUMENT = "throws.IllegalArgumentException";
    private static final String INDEX = "throws.IndexOutOfBoundsException";
    private static final String UNSUPPORTED = "throws.UnsupportedOperationException";
    private static final String STATE = "throws.IllegalStateException";
    private static final String NONE = "throws.NoSuchElementException";
    private static final String ARITHMETIC = "throws.ArithmeticException";
    private static final int LEAST = Integer.MIN_VALUE;
    private static final int MOST = Integer.MAX_VALUE;
    private static final int[] NO_SUCH_CASES = {-1, 16, LEAST, MOST};

    private static boolean isFull;
    private static String unrefused;

    public static void main(String[] args) {
        for (int full = 0; full < 2; full++) {
            isFull = full == 1;
            states();
            unrefused = lifeBehind(order());
            days();
            enact();
            condition();
            act();
            limitsAndSpans();
            privileges();
            begin();
            answer();
            proof();
            addEvidence();
            asked();
            judge();
            rows();
            assets();
            debts();
        }
        empty();
        Check.end();
    }

    private static void refused(String due, String name, Object... values) {
        Caller caller = order();
        String label = (isFull ? "full: " : "ordinary: ") + Caller.text(name, values);
        Check.same(label, caller.call(name, values), due);
        caller.past();
        Check.same(label + " changes nothing", lifeBehind(caller), unrefused);
    }

    /** The lists of cases in the refused calls lean on these states. */
    private static void states() {
        Caller c = order();
        StringBuilder states = new StringBuilder();
        for (int number = 0; number < 12; number++) {
            states.append(c.call("stateOf", number));
        }
        Check.same("the states of the cases", states.toString(), "bajsfffjbfbj");
        Check.same("a debt", c.call("debt", 4), "1004");
        Check.same("no debt", c.call("debt", 6), "0");
        Check.same("barred in time", c.call("rows", 7), "0");
        Check.same("two rows", c.call("rows", 2), "2");
        Check.same("sections", c.call("sections"), isFull ? "24" : "6");
        Check.same("cases", c.call("cases"), isFull ? "16" : "12");
        Check.same("the 20th evidence", c.call("isAdmitted", 8, 19), isFull ? "true" : INDEX);
        Check.same("assets", c.call("assets", 9), isFull ? "0" : "9999999");
    }

    private static void days() {
        for (int days : new int[] {0, -1, 101, LEAST, MOST}) {
            refused(ARGUMENT, "advance", days);
        }
    }

    private static void enact() {
        for (int rank : new int[] {-1, 4, LEAST, MOST}) {
            refused(ARGUMENT, "enact", rank, 7, true, -1);
            refused(ARGUMENT, "enact", rank, 7, true, 24);
            refused(ARGUMENT, "enact", rank, 6, true, 0);
        }
        for (int issue : new int[] {-1, 8, LEAST, MOST}) {
            refused(ARGUMENT, "enact", 0, issue, true, -1);
            refused(ARGUMENT, "enact", 0, issue, true, 24);
            refused(ARGUMENT, "enact", 0, issue, true, 0);
        }
        for (int section : new int[] {-2, isFull ? 24 : 6, LEAST, MOST}) {
            refused(INDEX, "enact", 0, 7, true, section);
        }
        refused(UNSUPPORTED, "enact", 0, 6, true, 0);
        refused(UNSUPPORTED, "enact", 0, 7, true, 5);
        if (isFull) {
            refused(STATE, "enact", 0, 7, true, -1);
            refused(STATE, "enact", 0, 7, true, 0);
        }
    }

    private static void condition() {
        for (int section : new int[] {-1, isFull ? 24 : 6, LEAST, MOST}) {
            refused(INDEX, "condition", section, 'f', 0);
            refused(INDEX, "condition", section, 'z', 16);
        }
        for (char kind : new char[] {'e', 'g', 'm', 'o', 'i', 'w', 'y', 'F', 0, Character.MAX_VALUE}) {
            refused(ARGUMENT, "condition", 2, kind, 0);
        }
        for (int number : new int[] {-1, 16, LEAST, MOST}) {
            refused(ARGUMENT, "condition", 2, 'f', number);
            refused(ARGUMENT, "condition", 2, 'n', number);
            refused(ARGUMENT, "condition", 0, 'f', number);
        }
        for (int number : new int[] {-1, 8, LEAST, MOST}) {
            refused(ARGUMENT, "condition", 2, 'h', number);
            refused(ARGUMENT, "condition", 2, 'x', number);
            refused(ARGUMENT, "condition", 3, 'h', number);
        }
        for (int issue : new int[] {3, 4, 7}) {
            refused(UNSUPPORTED, "condition", 2, 'h', issue);
            refused(UNSUPPORTED, "condition", 2, 'x', issue);
        }
        refused(UNSUPPORTED, "condition", 0, 'f', 0);
        refused(UNSUPPORTED, "condition", 5, 'n', 0);
        refused(STATE, "condition", 3, 'f', 0);
        refused(STATE, "condition", 3, 'h', 6);
        refused(ARGUMENT, "condition", 0, 'z', 0);
        refused(ARGUMENT, "condition", 3, 'z', 0);
        refused(ARGUMENT, "condition", 4, 'z', 0);
        refused(UNSUPPORTED, "condition", 3, 'h', 7);
        refused(UNSUPPORTED, "condition", 4, 'f', 0);
    }

    private static void act() {
        for (int section : new int[] {-1, isFull ? 24 : 6, LEAST, MOST}) {
            refused(INDEX, "act", section, true, 0);
            refused(INDEX, "act", section, true, -1);
            refused(INDEX, "isInForce", section, 0, 0);
            refused(INDEX, "isInForce", section, -1, -1);
        }
        for (int day : new int[] {-1, 10000, LEAST, MOST}) {
            refused(ARGUMENT, "act", 0, true, day);
            refused(ARGUMENT, "act", 5, false, day);
        }
        refused(STATE, "act", 5, true, 0);
        refused(STATE, "act", 5, false, 9999);
        for (int day : new int[] {-1, LEAST}) {
            refused(ARGUMENT, "isInForce", 0, day, 0);
            refused(ARGUMENT, "isInForce", 0, 0, day);
        }
    }

    private static void limitsAndSpans() {
        for (int issue : new int[] {-1, 8, LEAST, MOST}) {
            refused(ARGUMENT, "setLimit", issue, 5);
        }
        for (int limit : new int[] {-1, 1000, LEAST, MOST}) {
            refused(ARGUMENT, "setLimit", 7, limit);
        }
        for (int person : new int[] {-1, 10, LEAST, MOST}) {
            refused(ARGUMENT, "toll", person, 1, 0, 0);
            refused(ARGUMENT, "toll", 1, person, 0, 0);
        }
        refused(ARGUMENT, "toll", 1, 1, 0, 0);
        refused(ARGUMENT, "toll", -1, -1, 0, 0);
        for (int day : new int[] {-1, 10000, LEAST, MOST}) {
            refused(ARGUMENT, "toll", 0, 1, day, 9999);
            refused(ARGUMENT, "toll", 0, 1, 5, day);
        }
        refused(ARGUMENT, "toll", 0, 1, 5, 4);
        refused(ARGUMENT, "toll", 0, 1, 9999, 0);
        if (isFull) {
            refused(STATE, "toll", 0, 1, 0, 9999);
            refused(STATE, "toll", 8, 9, 0, 0);
        }
    }

    private static void privileges() {
        for (int person : new int[] {-1, 10, LEAST, MOST}) {
            for (boolean has : new boolean[] {false, true}) {
                refused(ARGUMENT, "setPrivilege", person, 1, has);
                refused(ARGUMENT, "setPrivilege", 1, person, has);
            }
        }
    }

    private static void begin() {
        for (int person : new int[] {-1, 10, LEAST, MOST}) {
            refused(ARGUMENT, "begin", person, 1, 7, 1, 0, 0);
            refused(ARGUMENT, "begin", 0, person, 7, 1, 0, 0);
        }
        for (int issue : new int[] {-1, 8, LEAST, MOST}) {
            refused(ARGUMENT, "begin", 0, 1, issue, 1, 0, 0);
        }
        for (int amount : new int[] {0, -1, 100000, LEAST, MOST}) {
            refused(ARGUMENT, "begin", 0, 1, 0, amount, 0, 0);
            refused(ARGUMENT, "begin", 0, 1, 7, amount, 0, 0);
        }
        for (int court : new int[] {-1, 3, LEAST, MOST}) {
            refused(ARGUMENT, "begin", 0, 1, 0, 1, court, 0);
        }
        for (int event : new int[] {-1, 151, LEAST, MOST}) {
            refused(ARGUMENT, "begin", 0, 1, 0, 1, 0, event);
        }
        refused(ARGUMENT, "begin", 3, 3, 0, 1, 0, 0);
        refused(UNSUPPORTED, "begin", 0, 1, 7, 1, 0, 0);
        refused(UNSUPPORTED, "begin", 1, 0, 7, 1, 2, 0);
        refused(UNSUPPORTED, "begin", 3, 4, 7, 1, 0, 0);
        if (isFull) {
            refused(STATE, "begin", 0, 1, 0, 1, 0, 0);
        }
    }

    private static void answer() {
        for (int number : NO_SUCH_CASES) {
            refused(INDEX, "answer", number, 255, true);
            refused(INDEX, "answer", number, 256, true);
        }
        for (int sum : new int[] {-1, 256, LEAST, MOST}) {
            refused(ARGUMENT, "answer", 0, sum, true);
            refused(ARGUMENT, "answer", 1, sum, true);
            refused(ARGUMENT, "answer", 2, sum, true);
        }
        for (int number : new int[] {1, 2, 3, 4, 9}) {
            refused(UNSUPPORTED, "answer", number, 255, true);
        }
    }

    private static void proof() {
        for (int number : NO_SUCH_CASES) {
            refused(INDEX, "setStandard", number, 0, 75);
            refused(INDEX, "setStandard", number, 16, 0);
            refused(INDEX, "presume", number, 0, true);
            refused(INDEX, "presume", number, 16, true);
            refused(INDEX, "concede", number, 0);
            refused(INDEX, "concede", number, 16);
        }
        for (int number : new int[] {0, 1, 2, 3, 4}) {
            for (int fact : new int[] {-1, 16, LEAST, MOST}) {
                refused(ARGUMENT, "setStandard", number, fact, 75);
                refused(ARGUMENT, "presume", number, fact, true);
                refused(ARGUMENT, "concede", number, fact);
            }
            for (int standard : new int[] {0, 49, 51, 74, 76, 94, 96, LEAST, MOST}) {
                refused(ARGUMENT, "setStandard", number, 0, standard);
            }
        }
        for (int number : new int[] {2, 3, 4, 7, 9}) {
            refused(UNSUPPORTED, "setStandard", number, 0, 75);
            refused(UNSUPPORTED, "presume", number, 0, true);
            refused(UNSUPPORTED, "presume", number, 0, false);
            refused(UNSUPPORTED, "concede", number, 0);
        }
    }

    private static void addEvidence() {
        for (int number : NO_SUCH_CASES) {
            refused(INDEX, "addEvidence", number, 0, true, 50, 5, -1);
            refused(INDEX, "addEvidence", number, 16, true, 0, 10, -1);
        }
        for (int from : new int[] {-2, 20, LEAST, MOST}) {
            refused(INDEX, "addEvidence", 0, 0, true, 50, 5, from);
            refused(INDEX, "addEvidence", 0, 16, true, 0, 10, from);
            refused(INDEX, "addEvidence", 2, 0, true, 50, 5, from);
            refused(INDEX, "addEvidence", 8, 0, true, 50, 5, from);
        }
        refused(INDEX, "addEvidence", 0, 0, true, 50, 5, 2);
        refused(INDEX, "addEvidence", 1, 0, true, 50, 5, 0);
        for (int number : new int[] {0, 2, 8}) {
            for (int from = -1; from <= 1; from++) {
                for (int fact : new int[] {-1, 16, LEAST, MOST}) {
                    refused(ARGUMENT, "addEvidence", number, fact, true, 50, 5, from);
                }
                for (int weight : new int[] {0, -1, 100, LEAST, MOST}) {
                    refused(ARGUMENT, "addEvidence", number, 0, true, weight, 5, from);
                }
                for (int person : new int[] {-1, 10, LEAST, MOST}) {
                    refused(ARGUMENT, "addEvidence", number, 0, true, 50, person, from);
                }
            }
        }
        refused(UNSUPPORTED, "addEvidence", 2, 0, true, 50, 5, -1);
        refused(UNSUPPORTED, "addEvidence", 2, 0, true, 50, 5, 0);
        refused(UNSUPPORTED, "addEvidence", 3, 0, true, 50, 5, -1);
        refused(UNSUPPORTED, "addEvidence", 4, 0, true, 50, 5, -1);
        refused(UNSUPPORTED, "addEvidence", 0, 1, true, 50, 5, 0);
        refused(UNSUPPORTED, "addEvidence", 0, 0, true, 50, 5, 1);
        refused(UNSUPPORTED, "addEvidence", 8, 1, true, 50, 5, 0);
        if (isFull) {
            refused(STATE, "addEvidence", 8, 0, true, 50, 5, -1);
            refused(STATE, "addEvidence", 8, 0, true, 50, 5, 0);
        }
    }

    private static void asked() {
        for (int number : NO_SUCH_CASES) {
            for (String name : new String[] {"elapsed", "isLate", "stateOf", "outcome", "court", "rows", "isPrecedent",
                "debt"}) {
                refused(INDEX, name, number);
            }
            refused(INDEX, "isAdmitted", number, 0);
            refused(INDEX, "joined", number, 0, true);
            refused(INDEX, "joined", number, 16, true);
            refused(INDEX, "isFound", number, 0);
            refused(INDEX, "isFound", number, 16);
            refused(INDEX, "wouldHold", number, 0);
            refused(INDEX, "wouldHold", number, 8);
        }
        for (int evidence : new int[] {-1, 2, LEAST, MOST}) {
            refused(INDEX, "isAdmitted", 0, evidence);
        }
        refused(INDEX, "isAdmitted", 1, 0);
        for (int fact : new int[] {-1, 16, LEAST, MOST}) {
            refused(ARGUMENT, "joined", 0, fact, true);
            refused(ARGUMENT, "joined", 2, fact, false);
            refused(ARGUMENT, "isFound", 0, fact);
            refused(ARGUMENT, "isFound", 2, fact);
        }
        for (int issue : new int[] {-1, 8, LEAST, MOST}) {
            refused(ARGUMENT, "wouldHold", 0, issue);
            refused(ARGUMENT, "wouldHold", 2, issue);
        }
        for (int number : new int[] {0, 1, 10}) {
            refused(NONE, "outcome", number);
            refused(NONE, "rows", number);
            refused(NONE, "isPrecedent", number);
        }
    }

    private static void judge() {
        for (int number : NO_SUCH_CASES) {
            refused(INDEX, "judge", number);
            refused(INDEX, "appeal", number);
            refused(INDEX, "decide", number);
        }
        for (int number : new int[] {2, 3, 4, 7, 9, 10}) {
            refused(UNSUPPORTED, "judge", number);
        }
        for (int number : new int[] {0, 1, 10}) {
            refused(NONE, "appeal", number);
        }
        for (int number : new int[] {3, 4, 5, 9}) {
            refused(UNSUPPORTED, "appeal", number);
        }
        for (int number : new int[] {0, 1, 2, 4, 7, 9, 10}) {
            refused(UNSUPPORTED, "decide", number);
        }
    }

    private static void rows() {
        for (String name : new String[] {"rowIssue", "rowHeld", "rowBy"}) {
            for (int number : NO_SUCH_CASES) {
                refused(INDEX, name, number, 0);
                refused(INDEX, name, number, -1);
            }
            for (int row : new int[] {-1, 2, 8, LEAST, MOST}) {
                refused(NONE, name, 2, row);
            }
            refused(NONE, name, 0, 0);
            refused(NONE, name, 1, 0);
            refused(NONE, name, 7, 0);
            refused(NONE, name, 7, -1);
        }
    }

    private static void assets() {
        for (int person : new int[] {-1, 10, LEAST, MOST}) {
            refused(ARGUMENT, "give", person, 1);
            refused(ARGUMENT, "assets", person);
            refused(ARGUMENT, "insolvency", person);
        }
        for (int amount : new int[] {0, -1, 100000, LEAST, MOST}) {
            refused(ARGUMENT, "give", 0, amount);
            refused(ARGUMENT, "give", 9, amount);
        }
        refused(UNSUPPORTED, "insolvency", 6);
        if (!isFull) {
            refused(UNSUPPORTED, "give", 9, 1);
            refused(UNSUPPORTED, "give", 9, 99999);
        }
    }

    private static void debts() {
        for (int number : NO_SUCH_CASES) {
            refused(INDEX, "setRank", number, 0);
            refused(INDEX, "setRank", number, 4);
            refused(INDEX, "enforce", number);
        }
        for (int rank : new int[] {-1, 4, LEAST, MOST}) {
            refused(ARGUMENT, "setRank", 0, rank);
            refused(ARGUMENT, "setRank", 4, rank);
        }
        for (int number : new int[] {0, 1, 2, 3, 5, 7, 10, 11}) {
            refused(UNSUPPORTED, "enforce", number);
        }
        refused(NONE, "enforce", 6);
    }

    private static void empty() {
        for (String name : new String[] {"wonShare", "meanRows"}) {
            Check.same("empty: " + name, new Caller().call(name), ARITHMETIC);
        }
        for (int number : new int[] {-1, 0, 1, LEAST, MOST}) {
            Caller caller = new Caller();
            String[] ofCase = {"elapsed", "isLate", "judge", "appeal", "decide", "stateOf", "outcome", "court", "rows",
                "isPrecedent", "debt", "enforce"};
            for (String name : ofCase) {
                Check.same("empty: " + Caller.text(name, number), caller.call(name, number), INDEX);
            }
            Check.same("empty: condition " + number, caller.call("condition", number, 'f', 0), INDEX);
            Check.same("empty: act " + number, caller.call("act", number, true, 0), INDEX);
            Check.same("empty: isInForce " + number, caller.call("isInForce", number, 0, 0), INDEX);
            if (number != -1) {
                Check.same("empty: enact " + number, caller.call("enact", 0, 0, true, number), INDEX);
            }
            Check.same("empty: addEvidence " + number, caller.call("addEvidence", number, 0, true, 1, 0, -1), INDEX);
            Check.same("empty: sections", caller.call("sections"), "0");
            Check.same("empty: cases", caller.call("cases"), "0");
            Check.same("empty: wealth", caller.call("wealth"), "0");
            Check.same("empty: isSound", caller.call("isSound"), "true");
        }
    }

    /** An order on the day 150 with cases in each state, and with all that can be full, full, if that is asked. */
    private static Caller order() {
        Caller c = new Caller();
        law(c);
        cases(c);
        if (isFull) {
            fill(c);
        } else {
            c.call("toll", 0, 1, 5, 9);
            for (int i = 0; i < 100; i++) {
                c.call("give", 9, 99999);
            }
            c.call("give", 9, 99);
        }
        c.past();
        return c;
    }

    private static void law(Caller c) {
        c.call("enact", 1, 7, true, -1);
        c.call("enact", 0, 7, false, 0);
        c.call("enact", 0, 3, true, -1);
        c.call("enact", 0, 7, true, -1);
        c.call("enact", 0, 7, true, -1);
        c.call("enact", 2, 3, true, -1);
        c.call("condition", 0, 'f', 0);
        c.call("condition", 1, 'h', 3);
        for (int i = 0; i < 4; i++) {
            c.call("condition", 3, i == 3 ? 'h' : 'f', i);
            c.call("condition", 4, 'f', 1);
        }
        c.call("act", 0, true, 0);
        c.call("act", 1, true, 0);
        c.call("act", 4, true, 0);
        c.call("act", 4, false, 0);
        for (int i = 0; i < 8; i++) {
            c.call("act", 5, i % 2 == 0, 60 - i);
        }
    }

    private static void cases(Caller c) {
        c.call("advance", 100);
        c.call("setLimit", 1, 50);
        int[][] begun = {{0, 1, 7, 0, 0}, {0, 1, 3, 0, 0}, {2, 1, 7, 0, 0}, {2, 1, 7, 1, 1}, {4, 3, 7, 2, 0},
            {5, 6, 7, 2, 0}, {4, 3, 2, 2, 0}, {4, 3, 1, 0, 0}, {2, 8, 7, 0, 0}, {7, 8, 7, 0, 0}};
        for (int i = 0; i < begun.length; i++) {
            c.call("begin", begun[i][0], begun[i][1], begun[i][2], 1000 + i, begun[i][3], begun[i][4]);
        }
        for (int number : new int[] {0, 2, 8}) {
            c.call("addEvidence", number, 0, true, 60, 5, -1);
            c.call("addEvidence", number, 1, false, 60, 5, -1);
        }
        judge(c, 9);
        c.call("advance", 50);
        c.call("begin", 7, 8, 3, 1010, 2, 0);
        c.call("begin", 6, 8, 7, 1011, 0, 0);
        for (int number : new int[] {2, 3, 4, 5, 6, 7, 11}) {
            judge(c, number);
        }
        c.call("answer", 1, 252, false);
        c.call("appeal", 3);
        c.call("insolvency", 6);
        c.call("give", 3, 500);
    }

    private static void judge(Caller c, int number) {
        c.call("concede", number, 0);
        c.call("answer", number, 255, number == 7);
        c.call("judge", number);
    }

    private static void fill(Caller c) {
        for (int i = 6; i < 24; i++) {
            c.call("enact", i % 4, i % 8, true, -1);
        }
        for (int i = 0; i < 12; i++) {
            c.call("toll", i % 2, 8 - i % 2, 5 * i, 5 * i);
        }
        for (int i = 0; i < 4; i++) {
            c.call("begin", 9, i, 7, 50, 0, i);
        }
        for (int i = 2; i < 20; i++) {
            c.call("addEvidence", 8, 2, true, 50, 5, -1);
        }
    }

    private static String lifeBehind(Caller c) {
        c.past();
        askOrder(c);
        askCases(c);
        changeProof(c);
        goOn(c);
        return c.past();
    }

    private static void askOrder(Caller c) {
        for (String name : new String[] {"day", "sections", "cases", "wealth", "wonShare", "meanRows", "isSound"}) {
            c.call(name);
        }
        for (int i = 0; i < 10; i++) {
            c.call("assets", i);
        }
        for (int section = 0; section < 6; section++) {
            c.call("isInForce", section, 58, 150);
        }
    }

    private static void askCases(Caller c) {
        for (int number = 0; number < 16; number++) {
            for (String name : new String[] {"stateOf", "court", "debt", "elapsed", "isLate", "outcome", "isPrecedent"}) {
                c.call(name, number);
            }
            c.call("wouldHold", number, number % 2 == 0 ? 7 : 3);
        }
        for (int row = 0; row < 2; row++) {
            c.call("rowIssue", 2, row);
            c.call("rowHeld", 2, row);
            c.call("rowBy", 2, row);
        }
    }

    private static void changeProof(Caller c) {
        for (int fact = 0; fact < 2; fact++) {
            c.call("joined", 0, fact, fact == 0);
            c.call("setStandard", 0, fact, 95);
            c.call("presume", 0, fact, true);
            c.call("concede", 1, fact);
            c.call("isFound", 2, fact);
        }
        for (int issue = 0; issue < 8; issue++) {
            c.call("setLimit", issue, 70);
        }
        for (int towards = 0; towards < 3; towards++) {
            c.call("setPrivilege", 1, towards, true);
        }
        c.call("addEvidence", 0, 0, true, 50, 5, -1);
        c.call("addEvidence", 8, 0, true, 50, 5, -1);
        c.call("toll", 0, 1, 0, 9999);
        c.call("elapsed", 0);
    }

    private static void goOn(Caller c) {
        for (int section = 0; section < 6; section++) {
            c.call("condition", section, 'n', 15);
            c.call("act", section, true, 0);
        }
        c.call("enact", 0, 0, true, -1);
        c.call("begin", 8, 9, 5, 9, 1, 150);
        c.call("decide", 3);
        for (int number = 0; number < 16; number++) {
            c.call("setRank", number, number % 4);
        }
        for (int number : new int[] {0, 1, 8, 9, 12}) {
            c.call("answer", number, 127, true);
            c.call("judge", number);
            c.call("rows", number);
        }
        c.call("advance", 40);
        for (int number : new int[] {0, 4, 5, 6}) {
            c.call("enforce", number);
        }
        for (int person = 0; person < 10; person++) {
            c.call("insolvency", person);
            c.call("assets", person);
        }
        c.call("wealth");
        c.call("isSound");
    }
}
