/** The sentences on limits, spans, cases and answers that name a boundary, each with a test of its own. */
public final class BoundaryCaseTest {
    public static void main(String[] args) {
        caseCount();
        twoPersons();
        dayOfTheEvent();
        amounts();
        courts();
        barredByAnother();
        daysThatCount();
        tolledDays();
        tolledForTwoPersons();
        spanCount();
        spanOfOneDay();
        moreThanTheLimit();
        limits();
        answersOnce();
        sumOfIssues();
        waivedInYesAndNo();
        withoutAnAnswer();
        defaultFromTheTwentiethDay();
        foundByDefault();
        states();
        judgedIsClosed();
        Check.end();
    }

    private static void caseCount() {
        Check.sentence("At most 16 cases are numbered from 0.");
        Courtyard x = new Courtyard();
        Check.same("41: none", x.cases(), 0);
        for (int i = 0; i < 16; i++) {
            Check.same("11: number", x.begin(i % 9, 9, i / 9, 1, 0, 0), i);
        }
        Check.same("41: full", x.cases(), 16);
        Check.fails("11: a 17th", Check.STATE, () -> x.begin(0, 9, 7, 1, 0, 0));
        Check.same("41: still full", x.cases(), 16);
        Check.same("25: the 16th", x.stateOf(15), 'b');
        Check.fails("25: no 17th", Check.INDEX, () -> x.stateOf(16));
        x.answer(15, 255, false);
        x.judge(15);
        Check.fails("11: a judged case stays a case", Check.STATE, () -> x.begin(0, 9, 7, 1, 0, 0));
    }

    private static void twoPersons() {
        Check.sentence("if a number is out of range, or both persons are the same");
        for (int person = 0; person < 10; person++) {
            Courtyard x = new Courtyard();
            int same = person;
            Check.fails("11: " + person + " against itself", Check.ARGUMENT, () -> x.begin(same, same, 0, 1, 0, 0));
            Check.same("11: against another", x.begin(person, 9 - person, 0, 1, 0, 0), 0);
        }
    }

    private static void dayOfTheEvent() {
        Check.sentence("an event, which is a day up to that on which it is begun");
        Courtyard x = new Courtyard();
        Check.same("11: the day 0 on the day 0", x.begin(0, 1, 0, 1, 0, 0), 0);
        Check.fails("11: the day 1 on the day 0", Check.ARGUMENT, () -> x.begin(0, 1, 0, 1, 0, 1));
        x.advance(7);
        Check.same("11: today", x.begin(0, 1, 0, 1, 0, 7), 1);
        Check.fails("11: tomorrow", Check.ARGUMENT, () -> x.begin(0, 1, 0, 1, 0, 8));
        Check.fails("11: the day -1", Check.ARGUMENT, () -> x.begin(0, 1, 0, 1, 0, -1));
        Check.fails("11: the greatest day", Check.ARGUMENT, () -> x.begin(0, 1, 0, 1, 0, Integer.MAX_VALUE));
        Check.fails("11: the least day", Check.ARGUMENT, () -> x.begin(0, 1, 0, 1, 0, Integer.MIN_VALUE));
        Setup.pass(x, 10000);
        Check.same("11: a day above 9999", x.begin(0, 1, 0, 1, 0, 10007), 2);
    }

    private static void amounts() {
        Check.sentence("- `amount`: the amount, 1 to 99999");
        Courtyard x = Setup.always();
        Check.same("36: 1", x.debt(Setup.judged(x, 0, 1, 0, 1, 0, 0)), 1);
        Check.same("36: 99999", x.debt(Setup.judged(x, 0, 2, 0, 99999, 0, 0)), 99999);
        Check.fails("11: 0", Check.ARGUMENT, () -> x.begin(0, 3, 0, 0, 0, 0));
        Check.fails("11: 100000", Check.ARGUMENT, () -> x.begin(0, 3, 0, 100000, 0, 0));
        Check.fails("11: -1", Check.ARGUMENT, () -> x.begin(0, 3, 0, -1, 0, 0));
    }

    private static void courts() {
        Check.sentence("a court from 0 to 2");
        Courtyard x = new Courtyard();
        for (int court = 0; court < 3; court++) {
            x.begin(0, court + 1, 0, 1, court, 0);
            Check.same("27: court", x.court(court), court);
        }
        Check.fails("11: court 3", Check.ARGUMENT, () -> x.begin(0, 4, 0, 1, 3, 0));
        Check.fails("11: court -1", Check.ARGUMENT, () -> x.begin(0, 4, 0, 1, -1, 0));
    }

    private static void barredByAnother() {
        Check.sentence("A case between two persons, whoever is the plaintiff, bars another one with the same issue and"
                + " event.");
        Courtyard x = new Courtyard();
        x.advance(3);
        x.begin(0, 9, 7, 1, 0, 2);
        Check.fails("11: the same again", Check.UNSUPPORTED, () -> x.begin(0, 9, 7, 2, 1, 2));
        Check.fails("11: the other one as plaintiff", Check.UNSUPPORTED, () -> x.begin(9, 0, 7, 1, 0, 2));
        Check.same("11: the event a day ahead", x.begin(0, 9, 7, 1, 0, 1), 1);
        Check.same("11: the event a day behind", x.begin(9, 0, 7, 1, 0, 3), 2);
        Check.same("11: the issue below", x.begin(0, 9, 6, 1, 0, 2), 3);
        Check.same("11: another defendant", x.begin(0, 8, 7, 1, 0, 2), 4);
        Check.same("11: another plaintiff", x.begin(1, 9, 7, 1, 0, 2), 5);
        Check.fails("11: the last one bars too", Check.UNSUPPORTED, () -> x.begin(9, 1, 7, 1, 0, 2));
        x.answer(0, 255, false);
        x.judge(0);
        x.advance(31);
        Check.same("25: final", x.stateOf(0), 'f');
        Check.fails("11: a final one bars", Check.UNSUPPORTED, () -> x.begin(9, 0, 7, 1, 0, 2));
        Check.same("41: six", x.cases(), 6);
    }

    private static void daysThatCount() {
        Check.sentence("The days that count are those from the event on, this day included, up to the day ahead of its"
                + " beginning");
        Courtyard x = new Courtyard();
        Setup.pass(x, 9);
        for (int event = 0; event <= 9; event++) {
            x.begin(0, 1, 0, 1, 0, event);
            Check.same("20: event " + event + " of 9", x.elapsed(event), 9 - event);
        }
        x.advance(100);
        x.answer(0, 255, false);
        x.judge(0);
        Check.same("20: later days don't count", x.elapsed(0), 9);
    }

    private static int elapsedWith(int event, int begun, int[]... spans) {
        Courtyard x = new Courtyard();
        Setup.pass(x, begun);
        x.begin(0, 1, 0, 1, 0, event);
        for (int[] span : spans) {
            x.toll(0, 1, span[0], span[1]);
        }
        return x.elapsed(0);
    }

    private static void tolledDays() {
        Check.sentence("on which no span tolled them for its two persons");
        Check.same("20: none", elapsedWith(10, 20), 10);
        Check.same("20: up to the day ahead of the event", elapsedWith(10, 20, new int[] {0, 9}), 10);
        Check.same("20: up to the event", elapsedWith(10, 20, new int[] {0, 10}), 9);
        Check.same("20: the event alone", elapsedWith(10, 20, new int[] {10, 10}), 9);
        Check.same("20: the last day alone", elapsedWith(10, 20, new int[] {19, 19}), 9);
        Check.same("20: from the last day on", elapsedWith(10, 20, new int[] {19, 9999}), 9);
        Check.same("20: from the beginning on", elapsedWith(10, 20, new int[] {20, 9999}), 10);
        Check.same("20: just all", elapsedWith(10, 20, new int[] {10, 19}), 0);
        Check.same("20: all but the event", elapsedWith(10, 20, new int[] {11, 19}), 1);
        Check.same("20: all but the last day", elapsedWith(10, 20, new int[] {10, 18}), 1);
        Check.same("20: from 0 to 9999", elapsedWith(10, 20, new int[] {0, 9999}), 0);
        Check.same("20: two that touch", elapsedWith(10, 20, new int[] {12, 13}, new int[] {14, 15}), 6);
        Check.same("20: two that overlap", elapsedWith(10, 20, new int[] {12, 15}, new int[] {14, 17}), 4);
        Check.same("20: the same twice", elapsedWith(10, 20, new int[] {12, 15}, new int[] {12, 15}), 6);
        Check.same("20: one in another", elapsedWith(10, 20, new int[] {11, 18}, new int[] {13, 14}), 2);
        Check.same("20: the later one first", elapsedWith(10, 20, new int[] {16, 17}, new int[] {11, 12}), 6);
        Check.same("20: no days at all", elapsedWith(10, 10, new int[] {0, 9999}), 0);
        Check.same("20: above 9999 nothing is tolled", elapsedWith(0, 10100, new int[] {0, 9999}), 100);
    }

    private static void tolledForTwoPersons() {
        Check.sentence("Tolls days for two persons.");
        Courtyard x = new Courtyard();
        x.advance(10);
        x.begin(0, 1, 0, 1, 0, 0);
        x.begin(1, 0, 1, 1, 0, 0);
        x.begin(0, 2, 0, 1, 0, 0);
        x.begin(2, 1, 0, 1, 0, 0);
        x.toll(1, 0, 0, 3);
        Check.same("20: the two", x.elapsed(0), 6);
        Check.same("20: the two, the other way round", x.elapsed(1), 6);
        Check.same("20: one of them as plaintiff", x.elapsed(2), 10);
        Check.same("20: one of them as defendant", x.elapsed(3), 10);
    }

    private static void spanCount() {
        Check.sentence("Throws `IllegalStateException` if there are 12 spans");
        Courtyard x = new Courtyard();
        x.advance(100);
        x.begin(0, 1, 0, 1, 0, 0);
        for (int i = 1; i <= 12; i++) {
            Check.same("9: spans", x.toll(0, 1, 8 * i, 8 * i), i);
            Check.same("20: each one counts", x.elapsed(0), 100 - i);
        }
        Check.fails("9: a 13th", Check.STATE, () -> x.toll(0, 1, 0, 0));
        Check.fails("9: a 13th for others", Check.STATE, () -> x.toll(2, 3, 0, 0));
        Check.same("20: the 13th does not count", x.elapsed(0), 88);
    }

    private static void spanOfOneDay() {
        Check.sentence("- `to`: the last one, from the first one to 9999");
        Courtyard x = new Courtyard();
        Check.same("9: the first day alone", x.toll(0, 9, 0, 0), 1);
        Check.same("9: the last day alone", x.toll(9, 0, 9999, 9999), 2);
        Check.same("9: all days", x.toll(0, 9, 0, 9999), 3);
        Check.fails("9: a day less than the first one", Check.ARGUMENT, () -> x.toll(0, 9, 5, 4));
        Check.fails("9: to 10000", Check.ARGUMENT, () -> x.toll(0, 9, 5, 10000));
        Check.fails("9: from 10000", Check.ARGUMENT, () -> x.toll(0, 9, 10000, 10000));
        Check.fails("9: from -1", Check.ARGUMENT, () -> x.toll(0, 9, -1, 5));
        Check.fails("9: both -1", Check.ARGUMENT, () -> x.toll(0, 9, -1, -1));
        Check.fails("9: both the same person", Check.ARGUMENT, () -> x.toll(9, 9, 5, 5));
        Check.same("9: none of these is a span", x.toll(0, 9, 5, 5), 4);
    }

    private static void moreThanTheLimit() {
        Check.sentence("it is barred in time if they are more than the limit of its issue, 100 at first");
        for (int days : new int[] {0, 1, 99, 100, 101}) {
            Courtyard x = new Courtyard();
            Setup.pass(x, days);
            x.begin(0, 1, 7, 1, 0, 0);
            Check.same("21: " + days + " days of 100", x.isLate(0), days > 100);
            x.setLimit(7, 0);
            Check.same("21: " + days + " days of 0", x.isLate(0), days > 0);
            x.setLimit(7, 1);
            Check.same("21: " + days + " days of 1", x.isLate(0), days > 1);
        }
        Courtyard y = new Courtyard();
        Setup.pass(y, 1000);
        y.setLimit(7, 999);
        y.begin(0, 1, 7, 1, 0, 0);
        y.begin(0, 1, 7, 1, 0, 1);
        Check.same("21: 1000 days of 999", y.isLate(0), true);
        Check.same("21: 999 days of 999", y.isLate(1), false);
        y.toll(0, 1, 500, 500);
        Check.same("21: one of 1000 tolled", y.isLate(0), false);
    }

    private static void limits() {
        Check.sentence("- `limit`: the limit, 0 to 999");
        Courtyard x = new Courtyard();
        for (int issue = 0; issue < 8; issue++) {
            Check.same("8: 100 at first", x.setLimit(issue, 0), 100);
            Check.same("8: 0 before", x.setLimit(issue, 999), 0);
        }
        Check.fails("8: 1000", Check.ARGUMENT, () -> x.setLimit(0, 1000));
        Check.fails("8: -1", Check.ARGUMENT, () -> x.setLimit(0, -1));
        Check.same("8: 999 before", x.setLimit(7, 5), 999);
        Check.same("8: another issue", x.setLimit(6, 5), 999);
    }

    private static void answersOnce() {
        Check.sentence("The defendant answers once, tells which issues are joined, and whether the limit is pleaded.");
        Courtyard x = Setup.always();
        x.advance(1);
        x.setLimit(0, 0);
        x.begin(0, 1, 0, 1, 0, 0);
        x.answer(0, 255, true);
        Check.fails("12: once more", Check.UNSUPPORTED, () -> x.answer(0, 255, false));
        Check.same("22: pleaded as first answered", x.judge(0), false);
        Check.fails("12: judged", Check.UNSUPPORTED, () -> x.answer(0, 255, false));
        x.begin(0, 1, 1, 1, 0, 0);
        x.advance(20);
        Check.same("12: on the day of the default", x.answer(1, 255, false), 0);
        x.begin(0, 1, 2, 1, 0, 0);
        x.advance(20);
        x.judge(2);
        Check.fails("12: judged by default", Check.UNSUPPORTED, () -> x.answer(2, 255, false));
    }

    private static void sumOfIssues() {
        Check.sentence("the sum of 2 to the power of each issue that is joined, 0 to 255");
        Courtyard x = new Courtyard();
        int[] sums = {0, 255, 1, 128, 254, 127};
        int[] waived = {8, 0, 7, 7, 1, 1};
        for (int i = 0; i < sums.length; i++) {
            x.begin(i, 9, 0, 1, 0, 0);
            Check.same("12: waived of " + sums[i], x.answer(i, sums[i], false), waived[i]);
        }
        x.begin(8, 9, 0, 1, 0, 0);
        for (int sum : new int[] {-1, 256, 511, -256, Integer.MIN_VALUE, Integer.MAX_VALUE}) {
            Check.fails("12: sum " + sum, Check.ARGUMENT, () -> x.answer(6, sum, false));
        }
        Check.same("12: not answered by these", x.stateOf(6), 'b');
    }

    private static void waivedInYesAndNo() {
        Check.sentence("as a condition, it is met in a section that says yes, and not met in one that says no");
        for (int issue = 0; issue < 7; issue++) {
            for (String kind : new String[] {"h", "x"}) {
                Courtyard x = new Courtyard();
                Setup.law(x, 3, 7, true, -1, kind + issue);
                Setup.law(x, 3, 7, false, 0, kind + issue);
                Setup.law(x, 3, issue, kind.equals("x"), -1, "");
                x.begin(0, 1, 7, 1, 0, 0);
                Check.same("33: not waived yet", x.wouldHold(0, 7), false);
                x.answer(0, 255 - (1 << issue), false);
                Check.same("33: " + kind + issue + " waived", x.wouldHold(0, 7), true);
                Courtyard z = new Courtyard();
                Setup.law(z, 3, 7, true, -1, "");
                Setup.law(z, 3, 7, false, 0, kind + issue);
                Setup.law(z, 3, issue, kind.equals("h"), -1, "");
                z.begin(0, 1, 7, 1, 0, 0);
                z.answer(0, 128 + (1 << issue), false);
                Check.same("33: " + kind + issue + " alone is joined", z.wouldHold(0, 7), false);
            }
        }
        Courtyard y = new Courtyard();
        Setup.law(y, 3, 7, true, -1, "");
        y.begin(0, 1, 7, 1, 0, 0);
        y.answer(0, 127, false);
        Check.same("22: its own issue is no condition", y.judge(0), true);
        Check.same("28: and is asked", y.rows(0), 1);
    }

    private static void withoutAnAnswer() {
        Check.sentence("Throws `UnsupportedOperationException` if it is judged, or it is neither answered, nor is there a"
                + " default yet");
        Courtyard x = Setup.withCase(0);
        Check.fails("22: on the day of its beginning", Check.UNSUPPORTED, () -> x.judge(0));
        x.answer(0, 0, false);
        Check.same("22: answered, on that day", x.judge(0), false);
        Check.fails("22: judged", Check.UNSUPPORTED, () -> x.judge(0));
        x.advance(100);
        Check.fails("22: final", Check.UNSUPPORTED, () -> x.judge(0));
    }

    private static void defaultFromTheTwentiethDay() {
        Check.sentence("a case can be judged by default from the 20th day behind its beginning on");
        Courtyard x = new Courtyard();
        x.advance(5);
        x.begin(0, 1, 0, 1, 0, 0);
        x.begin(0, 2, 0, 1, 0, 0);
        x.advance(19);
        Check.fails("22: the 19th day", Check.UNSUPPORTED, () -> x.judge(0));
        Check.same("25: still begun", x.stateOf(0), 'b');
        x.advance(1);
        Check.same("22: the 20th day", x.judge(0), false);
        x.advance(1);
        Check.same("22: the 21st day", x.judge(1), false);
    }

    private static void foundByDefault() {
        Check.sentence("nothing is waived then, and each fact with the burden on the plaintiff is found");
        Courtyard x = new Courtyard();
        Setup.law(x, 3, 7, true, -1, "f0f15");
        Setup.law(x, 3, 7, false, 0, "h6");
        Setup.law(x, 3, 6, true, -1, "f7");
        x.begin(0, 1, 7, 1, 0, 0);
        x.presume(0, 7, true);
        x.presume(0, 8, true);
        x.addEvidence(0, 7, false, 50, 5, -1);
        x.addEvidence(0, 0, false, 99, 5, -1);
        x.advance(20);
        Check.same("33: without a default", x.wouldHold(0, 7), false);
        Check.same("22: by default", x.judge(0), true);
        for (int fact = 0; fact < 16; fact++) {
            Check.same("19: fact " + fact, x.isFound(0, fact), fact != 7);
        }
        Check.same("28: the issue 6 is asked, so not waived", x.rows(0), 2);
    }

    private static void states() {
        Check.sentence("Returns 'b' begun, 'a' answered, 'j' judged, 's' stayed, 'f' final.");
        Courtyard x = Setup.withCase(0);
        Check.same("25: begun", x.stateOf(0), 'b');
        x.answer(0, 255, false);
        Check.same("25: answered", x.stateOf(0), 'a');
        x.judge(0);
        Check.same("25: judged", x.stateOf(0), 'j');
        x.appeal(0);
        Check.same("25: stayed", x.stateOf(0), 's');
        x.decide(0);
        Check.same("25: judged anew", x.stateOf(0), 'j');
        x.appeal(0);
        x.decide(0);
        Check.same("25: final", x.stateOf(0), 'f');
    }

    private static void judgedIsClosed() {
        Check.sentence("Throws `UnsupportedOperationException` if it is judged");
        Courtyard x = Setup.withCase(0);
        x.addEvidence(0, 0, true, 1, 5, -1);
        x.answer(0, 255, false);
        Check.passes("13: answered", () -> x.setStandard(0, 0, 75));
        Check.passes("14: answered", () -> x.presume(0, 0, true));
        Check.passes("15: answered", () -> x.concede(0, 0));
        Check.passes("16: answered", () -> x.addEvidence(0, 0, true, 1, 5, 0));
        x.judge(0);
        for (int round = 0; round < 3; round++) {
            Check.fails("13: state " + x.stateOf(0), Check.UNSUPPORTED, () -> x.setStandard(0, 0, 75));
            Check.fails("14: state " + x.stateOf(0), Check.UNSUPPORTED, () -> x.presume(0, 0, false));
            Check.fails("15: state " + x.stateOf(0), Check.UNSUPPORTED, () -> x.concede(0, 1));
            Check.fails("16: state " + x.stateOf(0), Check.UNSUPPORTED, () -> x.addEvidence(0, 0, true, 1, 5, -1));
            if (round == 0) {
                x.appeal(0);
            } else if (round == 1) {
                x.decide(0);
                x.advance(31);
            }
        }
        Check.same("25: final at last", x.stateOf(0), 'f');
    }
}
