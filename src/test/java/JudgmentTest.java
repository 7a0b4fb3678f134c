import java.util.NoSuchElementException;

/** Promises 22, 26 to 31, 33 and 43 to 45: judgments, derivations, how issues are held. */
public final class JudgmentTest {
    private static final Class<IllegalArgumentException> ARGUMENT = IllegalArgumentException.class;
    private static final Class<IndexOutOfBoundsException> INDEX = IndexOutOfBoundsException.class;
    private static final Class<UnsupportedOperationException> UNSUPPORTED = UnsupportedOperationException.class;
    private static final Class<NoSuchElementException> NONE = NoSuchElementException.class;

    public static void main(String[] args) {
        judge();
        defaults();
        unjudged();
        strongestSection();
        severalConditions();
        exceptions();
        severalExceptions();
        issueConditions();
        waived();
        asked();
        lawOfTheEvent();
        barredInTime();
        wouldHold();
        shares();
        sound();
        Check.end();
    }

    /** Enacts a section and puts it in force from the day 0. */
    private static int law(Courtyard x, int rank, int issue, boolean says, int exceptionTo, String conditions) {
        int section = x.enact(rank, issue, says, exceptionTo);
        for (int i = 0; i + 1 < conditions.length(); i += 2) {
            x.condition(section, conditions.charAt(i), conditions.charAt(i + 1) - '0');
        }
        x.act(section, true, 0);
        return section;
    }

    private static void judge() {
        Courtyard x = new Courtyard();
        law(x, 0, 0, true, -1, "f1");
        Check.fails("22: case 0", INDEX, () -> x.judge(0));
        x.begin(0, 1, 0, 500, 0, 0);
        x.begin(0, 2, 0, 500, 0, 0);
        Check.fails("22: not answered", UNSUPPORTED, () -> x.judge(0));
        Check.fails("22: case -1", INDEX, () -> x.judge(-1));
        x.answer(0, 255, false);
        x.answer(1, 255, false);
        x.concede(0, 1);
        Check.same("22: for the plaintiff", x.judge(0), true);
        Check.same("22: against the plaintiff", x.judge(1), false);
        Check.fails("22: judged", UNSUPPORTED, () -> x.judge(0));
        Check.same("26: for", x.outcome(0), true);
        Check.same("26: against", x.outcome(1), false);
        Check.same("36: a debt", x.debt(0), 500);
        Check.same("36: no debt", x.debt(1), 0);
    }

    private static void defaults() {
        Courtyard x = new Courtyard();
        law(x, 2, 1, true, -1, "h0f1");
        law(x, 2, 0, true, -1, "n2");
        x.advance(7);
        x.begin(0, 1, 1, 500, 0, 0);
        x.begin(2, 1, 1, 500, 0, 0);
        x.presume(0, 2, true);
        x.addEvidence(0, 2, false, 60, 5, -1);
        x.setLimit(1, 0);
        x.advance(19);
        Check.fails("22: the 19th day", UNSUPPORTED, () -> x.judge(0));
        x.advance(1);
        Check.same("22: f2 is found by default", x.judge(1), false);
        Check.same("22: by default, no limit is pleaded", x.judge(0), true);
        Check.same("22: nothing is waived", x.rows(0), 2);
        Check.same("22: its issue 0 is not held", x.rowHeld(1, 0), false);
    }

    private static void unjudged() {
        Courtyard x = new Courtyard();
        Check.fails("26: case 0", INDEX, () -> x.outcome(0));
        Check.fails("28: case 0", INDEX, () -> x.rows(0));
        Check.fails("29: case 0", INDEX, () -> x.rowIssue(0, 0));
        Check.fails("30: case 0", INDEX, () -> x.rowHeld(0, 0));
        Check.fails("31: case 0", INDEX, () -> x.rowBy(0, 0));
        x.begin(0, 1, 0, 1, 0, 0);
        Check.fails("26: not judged", NONE, () -> x.outcome(0));
        Check.fails("28: not judged", NONE, () -> x.rows(0));
        Check.fails("29: not judged", NONE, () -> x.rowIssue(0, 0));
        Check.fails("30: not judged", NONE, () -> x.rowHeld(0, 0));
        Check.fails("31: not judged", NONE, () -> x.rowBy(0, 0));
        x.answer(0, 255, false);
        x.judge(0);
        Check.same("28: one row", x.rows(0), 1);
        Check.same("29: its issue", x.rowIssue(0, 0), 0);
        Check.same("30: not held", x.rowHeld(0, 0), false);
        Check.same("31: by nothing", x.rowBy(0, 0), -1);
        Check.fails("29: row 1", NONE, () -> x.rowIssue(0, 1));
        Check.fails("30: row 1", NONE, () -> x.rowHeld(0, 1));
        Check.fails("31: row 1", NONE, () -> x.rowBy(0, 1));
        Check.fails("29: row -1", NONE, () -> x.rowIssue(0, -1));
        Check.fails("30: row -1", NONE, () -> x.rowHeld(0, -1));
        Check.fails("31: row -1", NONE, () -> x.rowBy(0, -1));
        Check.fails("31: case 1", INDEX, () -> x.rowBy(1, 0));
    }

    private static void strongestSection() {
        Courtyard x = new Courtyard();
        x.begin(0, 1, 0, 1, 0, 0);
        for (int fact = 0; fact < 4; fact++) {
            x.concede(0, fact);
        }
        law(x, 1, 0, true, -1, "f0f1");
        Check.same("33: one says yes", x.wouldHold(0, 0), true);
        law(x, 1, 0, false, -1, "f0");
        Check.same("33: more conditions ahead of a higher number", x.wouldHold(0, 0), true);
        law(x, 1, 0, false, -1, "f2f2");
        Check.same("33: a higher number of the same conditions", x.wouldHold(0, 0), false);
        law(x, 2, 0, true, -1, "");
        Check.same("33: a higher rank ahead of conditions", x.wouldHold(0, 0), true);
        law(x, 3, 0, false, -1, "n3");
        Check.same("33: what does not apply does not count", x.wouldHold(0, 0), true);
        law(x, 3, 0, false, -1, "n4");
        Check.same("33: not found", x.wouldHold(0, 0), false);
        x.answer(0, 255, false);
        x.judge(0);
        Check.same("31: by the last one", x.rowBy(0, 0), 5);
    }

    private static void severalConditions() {
        Courtyard x = new Courtyard();
        law(x, 2, 4, true, -1, "f0f1");
        law(x, 2, 5, true, -1, "n2n3");
        law(x, 2, 6, true, -1, "h0h1");
        law(x, 2, 7, true, -1, "x2x3");
        law(x, 2, 1, true, -1, "");
        law(x, 2, 2, true, -1, "f4");
        x.begin(0, 1, 7, 1, 0, 0);
        x.concede(0, 1);
        x.concede(0, 2);
        x.concede(0, 4);
        for (int issue = 4; issue < 8; issue++) {
            Check.same("33: the first condition is not met, issue " + issue, x.wouldHold(0, issue), false);
        }
        x.answer(0, 255, false);
        x.judge(0);
        Check.same("28: the conditions of issue 7", x.rows(0), 3);
        Check.same("29: the last row", x.rowIssue(0, 2), 7);
        Courtyard y = new Courtyard();
        law(y, 2, 7, true, -1, "x2x3");
        y.begin(0, 1, 7, 1, 0, 0);
        Check.same("33: all conditions are met", y.wouldHold(0, 7), true);
    }

    private static void severalExceptions() {
        Courtyard x = new Courtyard();
        law(x, 3, 0, true, -1, "");
        law(x, 3, 0, true, -1, "");
        law(x, 0, 0, false, 1, "");
        law(x, 0, 0, false, 0, "");
        x.begin(0, 1, 0, 1, 0, 0);
        Check.same("33: both rules have an exception", x.wouldHold(0, 0), false);
        x.act(2, false, 0);
        Check.same("33: one of them has", x.wouldHold(0, 0), true);
    }

    private static void exceptions() {
        Courtyard x = new Courtyard();
        law(x, 3, 0, true, -1, "");
        law(x, 0, 0, false, 0, "f1");
        law(x, 0, 0, true, 1, "f2");
        law(x, 0, 0, false, 2, "f3");
        x.begin(0, 1, 0, 1, 0, 0);
        Check.same("33: a rule", x.wouldHold(0, 0), true);
        x.concede(0, 1);
        Check.same("33: an exception of lower rank silences it", x.wouldHold(0, 0), false);
        x.concede(0, 2);
        Check.same("33: an exception to the exception", x.wouldHold(0, 0), true);
        x.concede(0, 3);
        Check.same("33: one more", x.wouldHold(0, 0), false);
        x.act(3, false, 0);
        Check.same("33: not in force, it does not speak", x.wouldHold(0, 0), true);
        x.answer(0, 255, false);
        x.judge(0);
        Check.same("31: the rule speaks again", x.rowBy(0, 0), 0);
    }

    private static void issueConditions() {
        Courtyard x = new Courtyard();
        law(x, 0, 2, true, -1, "h0x1");
        law(x, 0, 0, true, -1, "f0");
        law(x, 0, 1, true, -1, "h0f1");
        x.begin(0, 1, 2, 1, 0, 0);
        Check.same("33: issue 0 is not held", x.wouldHold(0, 2), false);
        x.concede(0, 0);
        Check.same("33: 0 held, 1 not", x.wouldHold(0, 2), true);
        Check.same("33: another issue of the case", x.wouldHold(0, 1), false);
        x.concede(0, 1);
        Check.same("33: both held", x.wouldHold(0, 2), false);
        Check.same("33: issue 1 then", x.wouldHold(0, 1), true);
        x.answer(0, 255, false);
        x.judge(0);
        int[] by = {1, 2, -1};
        for (int row = 0; row < 3; row++) {
            Check.same("29: issue", x.rowIssue(0, row), row);
            Check.same("30: held", x.rowHeld(0, row), row < 2);
            Check.same("31: by", x.rowBy(0, row), by[row]);
        }
    }

    private static void waived() {
        for (int joined = 0; joined < 2; joined++) {
            Courtyard x = new Courtyard();
            law(x, 0, 1, true, -1, "h0");
            law(x, 0, 2, true, -1, "x0");
            law(x, 0, 3, false, law(x, 0, 3, true, -1, ""), "x0");
            law(x, 0, 4, false, law(x, 0, 4, true, -1, ""), "h0");
            law(x, 0, 0, joined == 0, -1, "");
            for (int issue = 0; issue < 5; issue++) {
                x.begin(0, 1, issue, 1, 0, 0);
                Check.same("12: waived", x.answer(issue, 254 + joined, false), 1 - joined);
            }
            Check.same("33: held itself", x.wouldHold(0, 0), joined == 0);
            Check.same("33: yes, held", x.wouldHold(1, 1), joined == 0);
            Check.same("33: yes, not held", x.wouldHold(2, 2), true);
            Check.same("33: no, not held", x.wouldHold(3, 3), joined == 0);
            Check.same("33: no, held", x.wouldHold(4, 4), true);
            for (int issue = 0; issue < 5; issue++) {
                x.judge(issue);
                Check.same("28: waived is not asked", x.rows(issue), issue == 0 ? 1 : 1 + joined);
            }
        }
    }

    private static void asked() {
        Courtyard x = new Courtyard();
        law(x, 0, 5, true, -1, "f0h1");
        law(x, 0, 5, false, 0, "x3");
        law(x, 0, 3, true, -1, "h2h1");
        x.enact(0, 3, true, -1);
        x.condition(3, 'h', 0);
        x.act(3, true, 1);
        law(x, 0, 6, true, -1, "h4");
        x.begin(0, 1, 5, 1, 0, 0);
        x.answer(0, 255, false);
        x.begin(2, 1, 5, 1, 0, 0);
        x.answer(1, 255 - 8, false);
        x.advance(1);
        x.begin(3, 1, 5, 1, 0, 1);
        x.answer(2, 255, false);
        for (int i = 0; i < 3; i++) {
            x.judge(i);
        }
        Check.same("28: exceptions included, whether they apply or not", x.rows(0), 4);
        int[] issues = {1, 2, 3, 5};
        for (int row = 0; row < 4; row++) {
            Check.same("29: by rising numbers", x.rowIssue(0, row), issues[row]);
        }
        Check.same("28: behind a waived one nothing is asked", x.rows(1), 2);
        Check.same("28: in force on the day of the event", x.rows(2), 5);
        Check.same("29: issue 0", x.rowIssue(2, 0), 0);
    }

    private static void lawOfTheEvent() {
        Courtyard x = new Courtyard();
        x.enact(2, 0, true, -1);
        x.advance(10);
        x.begin(0, 1, 0, 1, 0, 5);
        x.answer(0, 255, false);
        x.begin(0, 2, 0, 1, 0, 6);
        x.answer(1, 255, false);
        x.begin(0, 3, 0, 1, 0, 6);
        x.answer(2, 255, false);
        x.advance(1);
        x.act(0, true, 6);
        Check.same("22: ahead of its effect", x.judge(0), false);
        Check.same("22: told on the same day, ahead", x.judge(1), true);
        x.act(0, false, 0);
        Check.same("22: later acts change nothing", x.outcome(1), true);
        Check.same("33: repealed, the latest precedent binds", x.wouldHold(2, 0), true);
    }

    private static void barredInTime() {
        Courtyard x = new Courtyard();
        law(x, 0, 0, true, -1, "");
        x.advance(20);
        x.begin(0, 1, 0, 50, 0, 0);
        x.begin(0, 2, 0, 50, 0, 0);
        x.setLimit(0, 19);
        x.answer(0, 255, true);
        x.answer(1, 255, false);
        Check.same("33: would be held all the same", x.wouldHold(0, 0), true);
        Check.same("22: barred and pleaded", x.judge(0), false);
        Check.same("28: no rows", x.rows(0), 0);
        Check.fails("29: no row", NONE, () -> x.rowIssue(0, 0));
        Check.same("32: no precedent", x.isPrecedent(0), false);
        Check.same("36: no debt", x.debt(0), 0);
        Check.same("22: not pleaded", x.judge(1), true);
        Check.same("28: a row", x.rows(1), 1);
        Check.same("32: a precedent", x.isPrecedent(1), true);
        x.setLimit(0, 20);
        x.begin(0, 3, 0, 50, 0, 0);
        x.answer(2, 255, true);
        Check.same("22: pleaded, but in time", x.judge(2), true);
        Check.same("45: sound", x.isSound(), true);
    }

    private static void wouldHold() {
        Courtyard x = new Courtyard();
        Check.fails("33: case 0", INDEX, () -> x.wouldHold(0, 8));
        law(x, 2, 0, true, -1, "f0");
        x.begin(0, 1, 1, 1, 0, 0);
        Check.fails("33: issue 8", ARGUMENT, () -> x.wouldHold(0, 8));
        Check.fails("33: issue -1", ARGUMENT, () -> x.wouldHold(0, -1));
        Check.same("33: not found", x.wouldHold(0, 0), false);
        x.advance(20);
        Check.same("33: without a default", x.wouldHold(0, 0), false);
        x.judge(0);
        Check.same("33: by the record", x.wouldHold(0, 0), true);
        x.act(0, false, 0);
        Check.same("33: as known now", x.wouldHold(0, 0), false);
    }

    private static void shares() {
        Courtyard x = new Courtyard();
        Check.fails("43: none", ArithmeticException.class, () -> x.wonShare());
        Check.fails("44: none", ArithmeticException.class, () -> x.meanRows());
        law(x, 3, 1, true, -1, "n0x0");
        for (int i = 0; i < 4; i++) {
            x.begin(i, 9, 1, 1, i == 0 ? 2 : 0, 0);
        }
        Check.fails("43: none judged", ArithmeticException.class, () -> x.wonShare());
        Check.fails("44: none judged", ArithmeticException.class, () -> x.meanRows());
        for (int i = 0; i < 3; i++) {
            x.answer(i, i == 1 ? 0 : 255, false);
        }
        x.concede(0, 0);
        x.judge(0);
        Check.sameDouble("43: 0 of 1", x.wonShare(), 0);
        Check.sameDouble("44: 2 rows", x.meanRows(), 2);
        x.judge(1);
        x.judge(2);
        Check.sameDouble("43: 2 of 3", x.wonShare(), 2f / 3f);
        Check.sameDouble("44: 5 rows of 3", x.meanRows(), 5.0 / 3.0);
        x.appeal(2);
        Check.sameDouble("43: stayed too", x.wonShare(), 2f / 3f);
        x.act(0, false, 0);
        x.decide(2);
        Check.sameDouble("43: as they stand", x.wonShare(), 1f / 3f);
        Check.sameDouble("44: as they stand", x.meanRows(), 4.0 / 3.0);
    }

    private static void sound() {
        Courtyard x = new Courtyard();
        Check.same("45: nothing", x.isSound(), true);
        law(x, 0, 0, true, -1, "f0");
        law(x, 3, 1, true, -1, "h0");
        x.begin(0, 1, 1, 1, 0, 0);
        x.addEvidence(0, 0, true, 60, 5, -1);
        x.answer(0, 255, false);
        Check.same("45: nothing is judged", x.isSound(), true);
        x.judge(0);
        x.act(0, false, 0);
        x.act(1, false, 0);
        x.setPrivilege(5, 1, true);
        Check.same("45: acts behind the judgment, on its day", x.isSound(), true);
        x.enact(3, 1, false, -1);
        x.act(2, true, 0);
        x.begin(1, 2, 1, 1, 0, 0);
        x.answer(1, 0, false);
        x.judge(1);
        x.advance(5);
        x.appeal(0);
        x.act(2, false, 0);
        x.decide(0);
        x.act(2, true, 0);
        Check.same("45: an appeal, as known at the new judgment", x.isSound(), true);
        x.begin(2, 1, 1, 1, 0, 1);
        Check.same("45: another event", x.isSound(), true);
    }
}
